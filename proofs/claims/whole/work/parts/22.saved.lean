theorem st22 {i : Nat} (h : i < 6) : isSt (22 + 7 * i) := by
  have h2 := st_of (i := i + 3) (by omega)
  rwa [show 1 + 7 * (i + 3) = 22 + 7 * i by omega] at h2
def svN (n : Nat) : Nat := if n = 6 then 6 else n + 1
def svP (n : Nat) (P : Nat → Nat → Nat) (S : Nat → Nat) : Nat → Nat → Nat := fun i => if n = 6 then (if i = 5 then S else P (i + 1)) else (if i = n then S else P i)
/-- the saved states are P's first n, the oldest first -/
def RSv (v : VV) (n : Nat) (P : Nat → Nat → Nat) : Prop := ∃ nx, nx < 6 ∧ n ≤ 6 ∧ v 64 1 = nx ∧ v 64 2 = n ∧ ∀ i, i < n → RSt (22 + 7 * ((nx + 6 - n + i) % 6)) v (P i)
theorem RSv.kept {v v' : VV} {n : Nat} {P : Nat → Nat → Nat} (h : RSv v n P) (c : ∀ j, 22 ≤ j → j < 65 → v' j = v j) : RSv v' n P := by
  obtain ⟨nx, h1, h2, h3, h4, h5⟩ := h
  exact ⟨nx, h1, h2, by rw [c 64 (by omega) (by omega), h3], by rw [c 64 (by omega) (by omega), h4], fun i hi => (h5 i hi).kept (fun j h1 h2 => c j (by omega) (by omega))⟩
set_option maxHeartbeats 4000000 in
theorem m4_push {G : GT} {v : VV} {L : LL} (g : GH G) {S : Nat → Nat} {n : Nat} {P : Nat → Nat → Nat} (hr : RSt 1 v S) (w : WS S) (hs : RSv v n P) : CC G MX4_push [.ref (gB G 64), .ref (gB G 1)] v L (gV fun v' L' => L' = L ∧ RSv v' (svN n) (svP n P S) ∧ ∀ k, (k < 22 ∨ 65 ≤ k) → v' k = v k) := by
  refine cc_of g [some (.ref (gB G 64)), some (.ref (gB G 1))] rfl rfl rfl rfl (fun K F => ?_)
  obtain ⟨nx, hx, hn, e1, e2, hp⟩ := hs
  refine r_aload_n F dX4_push_0 rfl ?_
  refine r_get (x := .ref (gB G 65)) (T := TX4) (n := 0) F uw4 rfl rfl tw_186 (Or.inl rfl) dX4_push_1 (kd_lt (rfl : kd 64 = (3,0,0)) (by decide)) (ce3 rfl) rfl ?_
  refine r_aload_n F dX4_push_4 rfl ?_
  refine r_get (T := TX4) (n := 1) F uw4 rfl rfl tw_187 (Or.inl rfl) dX4_push_5 (kd_lt (rfl : kd 64 = (3,0,0)) (by decide)) (ce3 rfl) rfl ?_
  refine r_aald (i := v 64 1) F dX4_push_8 (rfl : kd 65 = (11,6,22)) (by omega) ?_
  obtain ⟨b, hbe⟩ : ∃ b, b = 22 + 7 * v 64 1 := ⟨_, rfl⟩
  rw [← hbe]
  have hb : isSt b := by rw [hbe]; exact st22 (by omega)
  refine r_aload_n F dX4_push_9 rfl ?_
  refine r_callN1w F fMX5_copyFrom tw_308 rfl hb.1 rfl rfl dX4_push_10 rfl rfl z0 (m5_copyFrom g st1 hb (by omega)) ?_
  rintro v1 L1 ⟨c, rfl⟩
  have f1 : v1 64 1 = nx := by rw [c.1 64 (by omega)]; exact e1
  have f2 : v1 64 2 = n := by rw [c.1 64 (by omega)]; exact e2
  refine r_aload_n F dX4_push_13 rfl ?_
  refine r_aload_n F dX4_push_14 rfl ?_
  refine r_get (T := TX4) (n := 1) F uw4 rfl rfl tw_187 (Or.inl rfl) dX4_push_15 (kd_lt (rfl : kd 64 = (3,0,0)) (by decide)) (ce3 rfl) rfl ?_
  refine r_iconst (x := 1) F dX4_push_18 rfl ?_
  refine r_iadd F dX4_push_19 ?_
  refine r_bipush (x := 6) F dX4_push_20 rfl ?_
  refine r_icge F dX4_push_22 (by omega) (by omega) (fun h22 => ?_) (fun h22 => ?_)
  · refine r_iconst (x := 0) F dX4_push_34 rfl ?_
    refine r_put (T := TX4) (n := 1) (ty0 := tyX4) (ty := .int) F uw4 tyX4_ok nmX4 rfl rfl tw_187 (Or.inl rfl) rfl rfl rfl rfl dX4_push_35 (kd_lt (rfl : kd 64 = (3,0,0)) (by decide)) (ce3 rfl) rfl (pe3_1 rfl) up2_ce ?_
    refine r_aload_n F dX4_push_38 rfl ?_
    refine r_aload_n F dX4_push_39 rfl ?_
    refine r_get (T := TX4) (n := 2) F uw4 rfl rfl tw_188 (Or.inl rfl) dX4_push_40 (kd_lt (rfl : kd 64 = (3,0,0)) (by decide)) (ce3 rfl) rfl ?_
    have f3 : ∀ z, up2 v1 64 1 z 64 2 = v1 64 2 := fun z => by simp [up2]
    rw [f3]
    refine r_iconst (x := 1) F dX4_push_43 rfl ?_
    refine r_iadd F dX4_push_44 ?_
    refine r_bipush (x := 6) F dX4_push_45 rfl ?_
    refine r_min F tw_320 rfl z0 (by omega) (by omega) dX4_push_47 ?_
    refine r_put (T := TX4) (n := 2) (ty0 := tyX4) (ty := .int) F uw4 tyX4_ok nmX4 rfl rfl tw_188 (Or.inl rfl) rfl rfl rfl rfl dX4_push_50 (kd_lt (rfl : kd 64 = (3,0,0)) (by decide)) (ce3 rfl) rfl (pe3_2 rfl) up2_ce ?_
    refine r_vret F rfl dX4_push_53 ⟨rfl, rfl, ?_, fun k hk => ?_⟩
    · have hcp := hr.copied w.b c
      have hkeep : ∀ i, i < n → (nx + 6 - n + i) % 6 ≠ nx → RSt (22 + 7 * ((nx + 6 - n + i) % 6)) v1 (P i) := fun i hi hne => (hp i hi).kept (fun j h1 h2 => c.1 j (by omega))
      rw [hbe, e1] at hcp
      by_cases h6 : n = 6
      · refine ⟨if nx + 1 < 6 then nx + 1 else 0, by split <;> omega, by unfold svN; rw [if_pos h6]; omega, ?_, ?_, fun i hi => ?_⟩
        · first | (simp [up2, f1]; omega) | (simp [up2, f1]; done)
        · unfold svN; rw [if_pos h6]; simp [up2, f2, h6]
        · have hN : svN n = 6 := by unfold svN; rw [if_pos h6]
          rw [hN] at hi ⊢
          have hq : RSt (22 + 7 * (((if nx + 1 < 6 then nx + 1 else 0) + 6 - 6 + i) % 6)) v1 (svP n P S i) := by
            unfold svP
            rw [if_pos h6]
            by_cases h5 : i = 5
            · rw [if_pos h5, show ((if nx + 1 < 6 then nx + 1 else 0) + 6 - 6 + i) % 6 = nx by split <;> omega]
              exact hcp
            · rw [if_neg h5]
              have hz := hkeep (i + 1) (by omega) (by omega)
              rwa [show (nx + 6 - n + (i + 1)) % 6 = ((if nx + 1 < 6 then nx + 1 else 0) + 6 - 6 + i) % 6 by split <;> omega] at hz
          exact hq.kept (fun j h1 h2 => by rw [up2_k _ (by omega), up2_k _ (by omega)])
      · refine ⟨if nx + 1 < 6 then nx + 1 else 0, by split <;> omega, by unfold svN; rw [if_neg h6]; omega, ?_, ?_, fun i hi => ?_⟩
        · first | (simp [up2, f1]; omega) | (simp [up2, f1]; done)
        · unfold svN; rw [if_neg h6]; simp [up2, f2]; omega
        · have hN : svN n = n + 1 := by unfold svN; rw [if_neg h6]
          rw [hN] at hi ⊢
          have hq : RSt (22 + 7 * (((if nx + 1 < 6 then nx + 1 else 0) + 6 - (n + 1) + i) % 6)) v1 (svP n P S i) := by
            unfold svP
            rw [if_neg h6]
            by_cases h5 : i = n
            · rw [if_pos h5, show ((if nx + 1 < 6 then nx + 1 else 0) + 6 - (n + 1) + i) % 6 = nx by split <;> omega]
              exact hcp
            · rw [if_neg h5]
              have hz := hkeep i (by omega) (by omega)
              rwa [show (nx + 6 - n + i) % 6 = ((if nx + 1 < 6 then nx + 1 else 0) + 6 - (n + 1) + i) % 6 by split <;> omega] at hz
          exact hq.kept (fun j h1 h2 => by rw [up2_k _ (by omega), up2_k _ (by omega)])
    · rw [up2_k _ (by omega), up2_k _ (by omega), c.1 k (by omega)]
  · refine r_aload_n F dX4_push_25 rfl ?_
    refine r_get (T := TX4) (n := 1) F uw4 rfl rfl tw_187 (Or.inl rfl) dX4_push_26 (kd_lt (rfl : kd 64 = (3,0,0)) (by decide)) (ce3 rfl) rfl ?_
    refine r_iconst (x := 1) F dX4_push_29 rfl ?_
    refine r_iadd F dX4_push_30 ?_
    refine r_goto F dX4_push_31 ?_
    refine r_put (T := TX4) (n := 1) (ty0 := tyX4) (ty := .int) F uw4 tyX4_ok nmX4 rfl rfl tw_187 (Or.inl rfl) rfl rfl rfl rfl dX4_push_35 (kd_lt (rfl : kd 64 = (3,0,0)) (by decide)) (ce3 rfl) rfl (pe3_1 rfl) up2_ce ?_
    refine r_aload_n F dX4_push_38 rfl ?_
    refine r_aload_n F dX4_push_39 rfl ?_
    refine r_get (T := TX4) (n := 2) F uw4 rfl rfl tw_188 (Or.inl rfl) dX4_push_40 (kd_lt (rfl : kd 64 = (3,0,0)) (by decide)) (ce3 rfl) rfl ?_
    have f3 : ∀ z, up2 v1 64 1 z 64 2 = v1 64 2 := fun z => by simp [up2]
    rw [f3]
    refine r_iconst (x := 1) F dX4_push_43 rfl ?_
    refine r_iadd F dX4_push_44 ?_
    refine r_bipush (x := 6) F dX4_push_45 rfl ?_
    refine r_min F tw_320 rfl z0 (by omega) (by omega) dX4_push_47 ?_
    refine r_put (T := TX4) (n := 2) (ty0 := tyX4) (ty := .int) F uw4 tyX4_ok nmX4 rfl rfl tw_188 (Or.inl rfl) rfl rfl rfl rfl dX4_push_50 (kd_lt (rfl : kd 64 = (3,0,0)) (by decide)) (ce3 rfl) rfl (pe3_2 rfl) up2_ce ?_
    refine r_vret F rfl dX4_push_53 ⟨rfl, rfl, ?_, fun k hk => ?_⟩
    · have hcp := hr.copied w.b c
      have hkeep : ∀ i, i < n → (nx + 6 - n + i) % 6 ≠ nx → RSt (22 + 7 * ((nx + 6 - n + i) % 6)) v1 (P i) := fun i hi hne => (hp i hi).kept (fun j h1 h2 => c.1 j (by omega))
      rw [hbe, e1] at hcp
      by_cases h6 : n = 6
      · refine ⟨if nx + 1 < 6 then nx + 1 else 0, by split <;> omega, by unfold svN; rw [if_pos h6]; omega, ?_, ?_, fun i hi => ?_⟩
        · first | (simp [up2, f1]; omega) | (simp [up2, f1]; done)
        · unfold svN; rw [if_pos h6]; simp [up2, f2, h6]
        · have hN : svN n = 6 := by unfold svN; rw [if_pos h6]
          rw [hN] at hi ⊢
          have hq : RSt (22 + 7 * (((if nx + 1 < 6 then nx + 1 else 0) + 6 - 6 + i) % 6)) v1 (svP n P S i) := by
            unfold svP
            rw [if_pos h6]
            by_cases h5 : i = 5
            · rw [if_pos h5, show ((if nx + 1 < 6 then nx + 1 else 0) + 6 - 6 + i) % 6 = nx by split <;> omega]
              exact hcp
            · rw [if_neg h5]
              have hz := hkeep (i + 1) (by omega) (by omega)
              rwa [show (nx + 6 - n + (i + 1)) % 6 = ((if nx + 1 < 6 then nx + 1 else 0) + 6 - 6 + i) % 6 by split <;> omega] at hz
          exact hq.kept (fun j h1 h2 => by rw [up2_k _ (by omega), up2_k _ (by omega)])
      · refine ⟨if nx + 1 < 6 then nx + 1 else 0, by split <;> omega, by unfold svN; rw [if_neg h6]; omega, ?_, ?_, fun i hi => ?_⟩
        · first | (simp [up2, f1]; omega) | (simp [up2, f1]; done)
        · unfold svN; rw [if_neg h6]; simp [up2, f2]; omega
        · have hN : svN n = n + 1 := by unfold svN; rw [if_neg h6]
          rw [hN] at hi ⊢
          have hq : RSt (22 + 7 * (((if nx + 1 < 6 then nx + 1 else 0) + 6 - (n + 1) + i) % 6)) v1 (svP n P S i) := by
            unfold svP
            rw [if_neg h6]
            by_cases h5 : i = n
            · rw [if_pos h5, show ((if nx + 1 < 6 then nx + 1 else 0) + 6 - (n + 1) + i) % 6 = nx by split <;> omega]
              exact hcp
            · rw [if_neg h5]
              have hz := hkeep i (by omega) (by omega)
              rwa [show (nx + 6 - n + i) % 6 = ((if nx + 1 < 6 then nx + 1 else 0) + 6 - (n + 1) + i) % 6 by split <;> omega] at hz
          exact hq.kept (fun j h1 h2 => by rw [up2_k _ (by omega), up2_k _ (by omega)])
    · rw [up2_k _ (by omega), up2_k _ (by omega), c.1 k (by omega)]
set_option maxHeartbeats 4000000 in
theorem m4_popInto {G : GT} {v : VV} {L : LL} (g : GH G) {n : Nat} {P : Nat → Nat → Nat} (w : WS (P (n - 1))) (hs : RSv v n P) (hn0 : 0 < n) : CC G MX4_popInto [.ref (gB G 64), .ref (gB G 1)] v L (gV fun v' L' => L' = L ∧ RSv v' (n - 1) P ∧ RSt 1 v' (P (n - 1)) ∧ ∀ k, (k < 1 ∨ (8 ≤ k ∧ k < 22) ∨ 65 ≤ k) → v' k = v k) := by
  refine cc_of g [some (.ref (gB G 64)), some (.ref (gB G 1))] rfl rfl rfl rfl (fun K F => ?_)
  obtain ⟨nx, hx, hn, e1, e2, hp⟩ := hs
  obtain ⟨ny, hny⟩ : ∃ ny, ny = if 0 < nx then nx - 1 else 5 := ⟨_, rfl⟩
  have hy : ny < 6 := by rw [hny]; split <;> omega
  obtain ⟨b, hbe⟩ : ∃ b, b = 22 + 7 * ny := ⟨_, rfl⟩
  have hb : isSt b := by rw [hbe]; exact st22 hy
  have tail : CW G K 2 0 0 (MQ (kb K) (Qn G (gV fun v' L' => L' = L ∧ RSv v' (n - 1) P ∧ RSt 1 v' (P (n - 1)) ∧ ∀ k, (k < 1 ∨ (8 ≤ k ∧ k < 22) ∨ 65 ≤ k) → v' k = v k)) (ka K) (ks K) 0 0 (gA G)) (up2 v 64 1 ny) L 21 [some (.ref (gB G 64)), some (.ref (gB G 1))] [] := by
    have f2 : up2 v 64 1 ny 64 2 = n := by simp [up2, e2]
    refine r_aload_n F dX4_popInto_21 rfl ?_
    refine r_dup F dX4_popInto_22 rfl ?_
    refine r_get (T := TX4) (n := 2) F uw4 rfl rfl tw_188 (Or.inl rfl) dX4_popInto_23 (kd_lt (rfl : kd 64 = (3,0,0)) (by decide)) (ce3 rfl) rfl ?_
    refine r_iconst (x := 1) F dX4_popInto_26 rfl ?_
    refine r_isub F dX4_popInto_27 (by omega) ?_
    refine r_put (T := TX4) (n := 2) (ty0 := tyX4) (ty := .int) F uw4 tyX4_ok nmX4 rfl rfl tw_188 (Or.inl rfl) rfl rfl rfl rfl dX4_popInto_28 (kd_lt (rfl : kd 64 = (3,0,0)) (by decide)) (ce3 rfl) rfl (pe3_2 rfl) up2_ce ?_
    refine r_aload_n F dX4_popInto_31 rfl ?_
    refine r_aload_n F dX4_popInto_32 rfl ?_
    refine r_get (x := .ref (gB G 65)) (T := TX4) (n := 0) F uw4 rfl rfl tw_186 (Or.inl rfl) dX4_popInto_33 (kd_lt (rfl : kd 64 = (3,0,0)) (by decide)) (ce3 rfl) rfl ?_
    refine r_aload_n F dX4_popInto_36 rfl ?_
    refine r_get (T := TX4) (n := 1) F uw4 rfl rfl tw_187 (Or.inl rfl) dX4_popInto_37 (kd_lt (rfl : kd 64 = (3,0,0)) (by decide)) (ce3 rfl) rfl ?_
    have f1 : ∀ z, up2 (up2 v 64 1 ny) 64 2 z 64 1 = ny := fun z => by simp [up2]
    rw [f1]
    refine r_aald (i := ny) F dX4_popInto_40 (rfl : kd 65 = (11,6,22)) hy ?_
    rw [← hbe]
    refine r_callN1w F fMX5_copyFrom tw_308 rfl rfl rfl rfl dX4_popInto_41 rfl rfl z0 (m5_copyFrom g hb st1 (by omega)) ?_
    rintro v1 L1 ⟨c, rfl⟩
    refine r_vret F rfl dX4_popInto_44 ⟨rfl, rfl, ?_, ?_, fun k hk => ?_⟩
    · refine ⟨ny, hy, by omega, by rw [c.1 64 (by omega)]; simp [up2], by rw [c.1 64 (by omega)]; simp [up2, e2], fun i hi => ?_⟩
      have hz := hp i (by omega)
      rw [show (nx + 6 - n + i) % 6 = (ny + 6 - (n - 1) + i) % 6 by rw [hny]; split <;> omega] at hz
      exact hz.kept (fun j h1 h2 => by rw [c.1 j (by omega), up2_k _ (by omega), up2_k _ (by omega)])
    · have hz := hp (n - 1) (by omega)
      rw [show (nx + 6 - n + (n - 1)) % 6 = ny by rw [hny]; split <;> omega, ← hbe] at hz
      exact (hz.kept (v' := up2 (up2 v 64 1 ny) 64 2 (up2 v 64 1 ny 64 2 - 1)) (fun j h1 h2 => by rw [up2_k _ (by omega), up2_k _ (by omega)])).copied w.b c
    · rw [c.1 k (by omega), up2_k _ (by omega), up2_k _ (by omega)]
  refine r_aload_n F dX4_popInto_0 rfl ?_
  refine r_aload_n F dX4_popInto_1 rfl ?_
  refine r_get (T := TX4) (n := 1) F uw4 rfl rfl tw_187 (Or.inl rfl) dX4_popInto_2 (kd_lt (rfl : kd 64 = (3,0,0)) (by decide)) (ce3 rfl) rfl ?_
  refine r_ifle F dX4_popInto_5 (by omega) (fun h5 => ?_) (fun h5 => ?_)
  · refine r_iconst (x := 5) F dX4_popInto_17 rfl ?_
    first | rw [show (v 64 1 - 1) = ny by rw [hny, if_pos (by omega), e1]] | rw [show nI 5 = nI ny by rw [hny, if_neg (by omega)]]
    refine r_put (T := TX4) (n := 1) (ty0 := tyX4) (ty := .int) F uw4 tyX4_ok nmX4 rfl rfl tw_187 (Or.inl rfl) rfl rfl rfl rfl dX4_popInto_18 (kd_lt (rfl : kd 64 = (3,0,0)) (by decide)) (ce3 rfl) rfl (pe3_1 rfl) up2_ce ?_
    exact tail
  · refine r_aload_n F dX4_popInto_8 rfl ?_
    refine r_get (T := TX4) (n := 1) F uw4 rfl rfl tw_187 (Or.inl rfl) dX4_popInto_9 (kd_lt (rfl : kd 64 = (3,0,0)) (by decide)) (ce3 rfl) rfl ?_
    refine r_iconst (x := 1) F dX4_popInto_12 rfl ?_
    refine r_isub F dX4_popInto_13 (by omega) ?_
    refine r_goto F dX4_popInto_14 ?_
    first | rw [show (v 64 1 - 1) = ny by rw [hny, if_pos (by omega), e1]] | rw [show nI 5 = nI ny by rw [hny, if_neg (by omega)]]
    refine r_put (T := TX4) (n := 1) (ty0 := tyX4) (ty := .int) F uw4 tyX4_ok nmX4 rfl rfl tw_187 (Or.inl rfl) rfl rfl rfl rfl dX4_popInto_18 (kd_lt (rfl : kd 64 = (3,0,0)) (by decide)) (ce3 rfl) rfl (pe3_1 rfl) up2_ce ?_
    exact tail
