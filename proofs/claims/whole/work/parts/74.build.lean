/-! the constructors -/
/-- a row of zeros -/
abbrev zrE (G : GT) (t n : Nat) : va_E := .inl (gc G t, n, .inl (fun _ => nI 0))
/-- states that lie one behind another from q on -/
def fq (q n : Nat) : Nat → Option Nat := fun j => if j < n then some (q + 7 * j) else none
def qr (G : GT) (q m n : Nat) : va_E := .inl (gc G 4, m, .inr (.inr (.inr (.inr (fq q n)))))
theorem fq_0 (q : Nat) : fq q 0 = fun _ => none := by funext j; unfold fq; rw [if_neg (Nat.not_lt_zero j)]
theorem qr_0 (G : GT) (q m : Nat) : qr G q m 0 = .inl (gc G 4, m, .inr (.inr (.inr (.inr (fun _ => none))))) := by unfold qr; rw [fq_0]
theorem fq_s (q i : Nat) : va_up (fq q i) i (some (q + 7 * i)) = fq q (i + 1) := by
  funext j
  unfold va_up fq
  by_cases h : j = i
  · subst h; rw [if_pos rfl, if_pos (Nat.lt_succ_self j)]
  · rw [if_neg h]
    by_cases h2 : j < i
    · rw [if_pos h2, if_pos (by omega)]
    · rw [if_neg h2, if_neg (by omega)]
theorem bk0 : ∀ j, j < 3 → defaultValue (tyX0 j) = vp_V [.null, .null, .null] j := by
  intro j hj
  have : j = 0 ∨ j = 1 ∨ j = 2 := by omega
  rcases this with rfl | rfl | rfl <;> rfl
theorem bk1 : ∀ j, j < 7 → defaultValue (tyX1 j) = vp_V [.null, .int (nI 0), .null, .null, .int (nI 0), .int (nI 0), .int (nI 0)] j := by
  intro j hj
  have : j = 0 ∨ j = 1 ∨ j = 2 ∨ j = 3 ∨ j = 4 ∨ j = 5 ∨ j = 6 := by omega
  rcases this with rfl | rfl | rfl | rfl | rfl | rfl | rfl <;> rfl
theorem bk2 : ∀ j, j < 4 → defaultValue (tyX3 j) = vp_V [.null, .null, .null, .int (nI 0)] j := by
  intro j hj
  have : j = 0 ∨ j = 1 ∨ j = 2 ∨ j = 3 := by omega
  rcases this with rfl | rfl | rfl | rfl <;> rfl
theorem bk3 : ∀ j, j < 3 → defaultValue (tyX4 j) = vp_V [.null, .int (nI 0), .int (nI 0)] j := by
  intro j hj
  have : j = 0 ∨ j = 1 ∨ j = 2 := by omega
  rcases this with rfl | rfl | rfl <;> rfl
theorem bk4 : ∀ j, j < 11 → defaultValue (tyX5 j) = vp_V [.null, .int (nI 0), .int (nI 0), .int (nI 0), .int (nI 0), .int (nI 0), .int (nI 0), .null, .null, .int (nI 0), .int (nI 0)] j := by
  intro j hj
  have : j = 0 ∨ j = 1 ∨ j = 2 ∨ j = 3 ∨ j = 4 ∨ j = 5 ∨ j = 6 ∨ j = 7 ∨ j = 8 ∨ j = 9 ∨ j = 10 := by omega
  rcases this with rfl | rfl | rfl | rfl | rfl | rfl | rfl | rfl | rfl | rfl | rfl <;> rfl
theorem bk5 : ∀ j, j < 4 → defaultValue (tyX6 j) = vp_V [.null, .null, .null, .int (nI 0)] j := by
  intro j hj
  have : j = 0 ∨ j = 1 ∨ j = 2 ∨ j = 3 := by omega
  rcases this with rfl | rfl | rfl | rfl <;> rfl
theorem bk6 : ∀ j, j < 7 → defaultValue (tyX7 j) = vp_V [.null, .null, .null, .null, .null, .null, .null] j := by
  intro j hj
  have : j = 0 ∨ j = 1 ∨ j = 2 ∨ j = 3 ∨ j = 4 ∨ j = 5 ∨ j = 6 := by omega
  rcases this with rfl | rfl | rfl | rfl | rfl | rfl | rfl <;> rfl
theorem bk7 : ∀ j, j < 14 → defaultValue (tyX8 j) = vp_V [.null, .null, .int (nI 0), .null, .null, .null, .int (nI 0), .int (nI 0), .null, .null, .int (nI 0), .int (nI 0), .int (nI 0), .long 0] j := by
  intro j hj
  have : j = 0 ∨ j = 1 ∨ j = 2 ∨ j = 3 ∨ j = 4 ∨ j = 5 ∨ j = 6 ∨ j = 7 ∨ j = 8 ∨ j = 9 ∨ j = 10 ∨ j = 11 ∨ j = 12 ∨ j = 13 := by omega
  rcases this with rfl | rfl | rfl | rfl | rfl | rfl | rfl | rfl | rfl | rfl | rfl | rfl | rfl | rfl <;> rfl
def bdB (G : GT) (q : Nat) : List va_E := .inr (0, [.ref (q + 1), .ref (q + 2), .ref (q + 3)]) :: ([zrE G 0 8] ++ ([zrE G 0 8] ++ [zrE G 0 32]))
set_option maxHeartbeats 4000000 in
theorem nc_Board {G : GT} : NC G MX0_init 0 [.null, .null, .null] (fun q => bdB G q) 3 48 := by
  refine nc_of [] rfl rfl rfl (fun _ => rfl) rfl (fun a K F hin => ?_)
  refine n_aload_n F rfl dX0_init_0 ?_
  refine n_obj F tw_111 rfl dX0_init_1 ?_
  refine n_aload_n F rfl dX0_init_4 ?_
  refine n_bipush (x := nI 8) F dX0_init_5 rfl ?_
  refine n_newa (N := 8) (n := 1) (t0 := 0) (ty := .int) (a0 := (8, .inl (fun _ => nI 0))) (el' := .inr (0, [.null, .null, .null]) :: ([zrE G 0 8])) F tw_127 rfl rfl (fun _ _ h => h) rfl (by decide) (by decide) ⟨by decide, by decide⟩ dX0_init_7 rfl rfl ?_
  refine n_putF (n := 0) (ci := 0) (el' := .inr (0, [.ref (a + 1), .null, .null]) :: ([zrE G 0 8])) F hin uw0 tyX0_ok nmX0 rfl (by decide) tw_112 rfl rfl rfl rfl rfl dX0_init_9 rfl (Nat.le_of_ble_eq_true rfl) rfl ?_
  refine n_aload_n F rfl dX0_init_12 ?_
  refine n_bipush (x := nI 8) F dX0_init_13 rfl ?_
  refine n_newa (N := 8) (n := 2) (t0 := 0) (ty := .int) (a0 := (8, .inl (fun _ => nI 0))) (el' := .inr (0, [.ref (a + 1), .null, .null]) :: ([zrE G 0 8] ++ [zrE G 0 8])) F tw_127 rfl rfl (fun _ _ h => h) rfl (by decide) (by decide) ⟨by decide, by decide⟩ dX0_init_15 rfl rfl ?_
  refine n_putF (n := 1) (ci := 0) (el' := .inr (0, [.ref (a + 1), .ref (a + 2), .null]) :: ([zrE G 0 8] ++ [zrE G 0 8])) F hin uw0 tyX0_ok nmX0 rfl (by decide) tw_115 rfl rfl rfl rfl rfl dX0_init_17 rfl (Nat.le_of_ble_eq_true rfl) rfl ?_
  refine n_aload_n F rfl dX0_init_20 ?_
  refine n_bipush (x := nI 32) F dX0_init_21 rfl ?_
  refine n_newa (N := 32) (n := 3) (t0 := 0) (ty := .int) (a0 := (32, .inl (fun _ => nI 0))) (el' := .inr (0, [.ref (a + 1), .ref (a + 2), .null]) :: ([zrE G 0 8] ++ ([zrE G 0 8] ++ [zrE G 0 32]))) F tw_127 rfl rfl (fun _ _ h => h) rfl (by decide) (by decide) ⟨by decide, by decide⟩ dX0_init_23 rfl rfl ?_
  refine n_putF (n := 2) (ci := 0) (el' := .inr (0, [.ref (a + 1), .ref (a + 2), .ref (a + 3)]) :: ([zrE G 0 8] ++ ([zrE G 0 8] ++ [zrE G 0 32]))) F hin uw0 tyX0_ok nmX0 rfl (by decide) tw_119 rfl rfl rfl rfl rfl dX0_init_25 rfl (Nat.le_of_ble_eq_true rfl) rfl ?_
  exact n_vret F rfl dX0_init_28 rfl
def stB (G : GT) (q : Nat) : List va_E := .inr (4, [.ref (q + 1), .int (nI 8), .int (nI 6), .int (nI 0), .int (nI 4), .int (nI 0), .int (nI 4294967295), .ref (q + 5), .ref (q + 6), .int (nI 0), .int (nI 0)]) :: (bdB G (q + 1) ++ ([zrE G 0 2] ++ [zrE G 0 2]))
set_option maxHeartbeats 4000000 in
theorem nc_State {G : GT} : NC G MX5_init 4 [.null, .int (nI 0), .int (nI 0), .int (nI 0), .int (nI 0), .int (nI 0), .int (nI 0), .null, .null, .int (nI 0), .int (nI 0)] (fun q => stB G q) 6 55 := by
  refine nc_of [] rfl rfl rfl (fun _ => rfl) rfl (fun a K F hin => ?_)
  refine n_aload_n F rfl dX5_init_0 ?_
  refine n_obj F tw_105 rfl dX5_init_1 ?_
  refine n_aload_n F rfl dX5_init_4 ?_
  refine n_new (n := 1) (el' := .inr (4, [.null, .int (nI 0), .int (nI 0), .int (nI 0), .int (nI 0), .int (nI 0), .int (nI 0), .null, .null, .int (nI 0), .int (nI 0)]) :: ([.inr (0, [.null, .null, .null])])) F uw0 tyX0_ok rfl tw_106 tw_107 tw_76 bk0 ⟨by decide, by decide⟩ dX5_init_5 rfl rfl ?_
  refine n_dup F dX5_init_8 rfl ?_
  refine n_ctorN (j := 1) (el' := .inr (4, [.null, .int (nI 0), .int (nI 0), .int (nI 0), .int (nI 0), .int (nI 0), .int (nI 0), .null, .null, .int (nI 0), .int (nI 0)]) :: (bdB G (a + 1))) ([.inr (4, [.null, .int (nI 0), .int (nI 0), .int (nI 0), .int (nI 0), .int (nI 0), .int (nI 0), .null, .null, .int (nI 0), .int (nI 0)])]) F fMX0_init fiMX0_init rfl rfl tw_108 rfl dX5_init_9 rfl rfl ⟨by decide, by decide⟩ nc_Board rfl rfl rfl ?_
  refine n_putF (n := 0) (ci := 4) (el' := .inr (4, [.ref (a + 1), .int (nI 0), .int (nI 0), .int (nI 0), .int (nI 0), .int (nI 0), .int (nI 0), .null, .null, .int (nI 0), .int (nI 0)]) :: (bdB G (a + 1))) F hin uw5 tyX5_ok nmX5 rfl (by decide) tw_128 rfl rfl rfl rfl rfl dX5_init_12 rfl (Nat.le_of_ble_eq_true rfl) rfl ?_
  refine n_aload_n F rfl dX5_init_15 ?_
  refine n_bipush (x := nI 8) F dX5_init_16 rfl ?_
  refine n_put (n := 1) (ci := 4) (el' := .inr (4, [.ref (a + 1), .int (nI 8), .int (nI 0), .int (nI 0), .int (nI 0), .int (nI 0), .int (nI 0), .null, .null, .int (nI 0), .int (nI 0)]) :: (bdB G (a + 1))) F uw5 tyX5_ok nmX5 rfl (by decide) tw_131 rfl rfl rfl rfl dX5_init_18 rfl (Nat.le_of_ble_eq_true rfl) rfl ?_
  refine n_aload_n F rfl dX5_init_21 ?_
  refine n_bipush (x := nI 6) F dX5_init_22 rfl ?_
  refine n_put (n := 2) (ci := 4) (el' := .inr (4, [.ref (a + 1), .int (nI 8), .int (nI 6), .int (nI 0), .int (nI 0), .int (nI 0), .int (nI 0), .null, .null, .int (nI 0), .int (nI 0)]) :: (bdB G (a + 1))) F uw5 tyX5_ok nmX5 rfl (by decide) tw_134 rfl rfl rfl rfl dX5_init_24 rfl (Nat.le_of_ble_eq_true rfl) rfl ?_
  refine n_aload_n F rfl dX5_init_27 ?_
  refine n_iconst (x := nI 0) F dX5_init_28 rfl ?_
  refine n_put (n := 3) (ci := 4) (el' := .inr (4, [.ref (a + 1), .int (nI 8), .int (nI 6), .int (nI 0), .int (nI 0), .int (nI 0), .int (nI 0), .null, .null, .int (nI 0), .int (nI 0)]) :: (bdB G (a + 1))) F uw5 tyX5_ok nmX5 rfl (by decide) tw_137 rfl rfl rfl rfl dX5_init_29 rfl (Nat.le_of_ble_eq_true rfl) rfl ?_
  refine n_aload_n F rfl dX5_init_32 ?_
  refine n_iconst (x := nI 4) F dX5_init_33 rfl ?_
  refine n_put (n := 4) (ci := 4) (el' := .inr (4, [.ref (a + 1), .int (nI 8), .int (nI 6), .int (nI 0), .int (nI 4), .int (nI 0), .int (nI 0), .null, .null, .int (nI 0), .int (nI 0)]) :: (bdB G (a + 1))) F uw5 tyX5_ok nmX5 rfl (by decide) tw_139 rfl rfl rfl rfl dX5_init_34 rfl (Nat.le_of_ble_eq_true rfl) rfl ?_
  refine n_aload_n F rfl dX5_init_37 ?_
  refine n_iconst (x := nI 0) F dX5_init_38 rfl ?_
  refine n_put (n := 5) (ci := 4) (el' := .inr (4, [.ref (a + 1), .int (nI 8), .int (nI 6), .int (nI 0), .int (nI 4), .int (nI 0), .int (nI 0), .null, .null, .int (nI 0), .int (nI 0)]) :: (bdB G (a + 1))) F uw5 tyX5_ok nmX5 rfl (by decide) tw_141 rfl rfl rfl rfl dX5_init_39 rfl (Nat.le_of_ble_eq_true rfl) rfl ?_
  refine n_aload_n F rfl dX5_init_42 ?_
  refine n_iconst (x := nI 4294967295) F dX5_init_43 (by decide) ?_
  refine n_put (n := 6) (ci := 4) (el' := .inr (4, [.ref (a + 1), .int (nI 8), .int (nI 6), .int (nI 0), .int (nI 4), .int (nI 0), .int (nI 4294967295), .null, .null, .int (nI 0), .int (nI 0)]) :: (bdB G (a + 1))) F uw5 tyX5_ok nmX5 rfl (by decide) tw_144 rfl rfl rfl rfl dX5_init_44 rfl (Nat.le_of_ble_eq_true rfl) rfl ?_
  refine n_aload_n F rfl dX5_init_47 ?_
  refine n_iconst (x := nI 2) F dX5_init_48 rfl ?_
  refine n_newa (N := 2) (n := 5) (t0 := 0) (ty := .int) (a0 := (2, .inl (fun _ => nI 0))) (el' := .inr (4, [.ref (a + 1), .int (nI 8), .int (nI 6), .int (nI 0), .int (nI 4), .int (nI 0), .int (nI 4294967295), .null, .null, .int (nI 0), .int (nI 0)]) :: (bdB G (a + 1) ++ [zrE G 0 2])) F tw_127 rfl rfl (fun _ _ h => h) rfl (by decide) (by decide) ⟨by decide, by decide⟩ dX5_init_49 rfl rfl ?_
  refine n_putF (n := 7) (ci := 4) (el' := .inr (4, [.ref (a + 1), .int (nI 8), .int (nI 6), .int (nI 0), .int (nI 4), .int (nI 0), .int (nI 4294967295), .ref (a + 5), .null, .int (nI 0), .int (nI 0)]) :: (bdB G (a + 1) ++ [zrE G 0 2])) F hin uw5 tyX5_ok nmX5 rfl (by decide) tw_146 rfl rfl rfl rfl rfl dX5_init_51 rfl (Nat.le_of_ble_eq_true rfl) rfl ?_
  refine n_aload_n F rfl dX5_init_54 ?_
  refine n_iconst (x := nI 2) F dX5_init_55 rfl ?_
  refine n_newa (N := 2) (n := 6) (t0 := 0) (ty := .int) (a0 := (2, .inl (fun _ => nI 0))) (el' := .inr (4, [.ref (a + 1), .int (nI 8), .int (nI 6), .int (nI 0), .int (nI 4), .int (nI 0), .int (nI 4294967295), .ref (a + 5), .null, .int (nI 0), .int (nI 0)]) :: (bdB G (a + 1) ++ ([zrE G 0 2] ++ [zrE G 0 2]))) F tw_127 rfl rfl (fun _ _ h => h) rfl (by decide) (by decide) ⟨by decide, by decide⟩ dX5_init_56 rfl rfl ?_
  refine n_putF (n := 8) (ci := 4) (el' := .inr (4, [.ref (a + 1), .int (nI 8), .int (nI 6), .int (nI 0), .int (nI 4), .int (nI 0), .int (nI 4294967295), .ref (a + 5), .ref (a + 6), .int (nI 0), .int (nI 0)]) :: (bdB G (a + 1) ++ ([zrE G 0 2] ++ [zrE G 0 2]))) F hin uw5 tyX5_ok nmX5 rfl (by decide) tw_148 rfl rfl rfl rfl rfl dX5_init_58 rfl (Nat.le_of_ble_eq_true rfl) rfl ?_
  refine n_aload_n F rfl dX5_init_61 ?_
  refine n_iconst (x := nI 0) F dX5_init_62 rfl ?_
  refine n_put (n := 9) (ci := 4) (el' := .inr (4, [.ref (a + 1), .int (nI 8), .int (nI 6), .int (nI 0), .int (nI 4), .int (nI 0), .int (nI 4294967295), .ref (a + 5), .ref (a + 6), .int (nI 0), .int (nI 0)]) :: (bdB G (a + 1) ++ ([zrE G 0 2] ++ [zrE G 0 2]))) F uw5 tyX5_ok nmX5 rfl (by decide) tw_150 rfl rfl rfl rfl dX5_init_63 rfl (Nat.le_of_ble_eq_true rfl) rfl ?_
  refine n_aload_n F rfl dX5_init_66 ?_
  refine n_iconst (x := nI 0) F dX5_init_67 rfl ?_
  refine n_put (n := 10) (ci := 4) (el' := .inr (4, [.ref (a + 1), .int (nI 8), .int (nI 6), .int (nI 0), .int (nI 4), .int (nI 0), .int (nI 4294967295), .ref (a + 5), .ref (a + 6), .int (nI 0), .int (nI 0)]) :: (bdB G (a + 1) ++ ([zrE G 0 2] ++ [zrE G 0 2]))) F uw5 tyX5_ok nmX5 rfl (by decide) tw_152 rfl rfl rfl rfl dX5_init_68 rfl (Nat.le_of_ble_eq_true rfl) rfl ?_
  exact n_vret F rfl dX5_init_71 rfl
def txB (G : GT) (q : Nat) : List va_E := .inr (1, [.ref (q + 1), .int (nI 0), .ref (q + 2), .ref (q + 6), .int (nI 0), .int (nI 0), .int (nI 0)]) :: ([zrE G 1 60] ++ (bdB G (q + 2) ++ [zrE G 2 8]))
set_option maxHeartbeats 4000000 in
theorem nc_BoardText {G : GT} : NC G MX1_init 1 [.null, .int (nI 0), .null, .null, .int (nI 0), .int (nI 0), .int (nI 0)] (fun q => txB G q) 6 119 := by
  refine nc_of [] rfl rfl rfl (fun _ => rfl) rfl (fun a K F hin => ?_)
  refine n_aload_n F rfl dX1_init_0 ?_
  refine n_obj F tw_202 rfl dX1_init_1 ?_
  refine n_aload_n F rfl dX1_init_4 ?_
  refine n_bipush (x := nI 60) F dX1_init_5 rfl ?_
  refine n_newa (N := 60) (n := 1) (t0 := 1) (ty := .char) (a0 := (60, .inl (fun _ => nI 0))) (el' := .inr (1, [.null, .int (nI 0), .null, .null, .int (nI 0), .int (nI 0), .int (nI 0)]) :: ([zrE G 1 60])) F tw_232 rfl rfl (fun _ _ h => h) rfl (by decide) (by decide) ⟨by decide, by decide⟩ dX1_init_7 rfl rfl ?_
  refine n_putF (n := 0) (ci := 1) (el' := .inr (1, [.ref (a + 1), .int (nI 0), .null, .null, .int (nI 0), .int (nI 0), .int (nI 0)]) :: ([zrE G 1 60])) F hin uw1 tyX1_ok nmX1 rfl (by decide) tw_205 rfl rfl rfl rfl rfl dX1_init_9 rfl (Nat.le_of_ble_eq_true rfl) rfl ?_
  refine n_aload_n F rfl dX1_init_12 ?_
  refine n_iconst (x := nI 0) F dX1_init_13 rfl ?_
  refine n_put (n := 1) (ci := 1) (el' := .inr (1, [.ref (a + 1), .int (nI 0), .null, .null, .int (nI 0), .int (nI 0), .int (nI 0)]) :: ([zrE G 1 60])) F uw1 tyX1_ok nmX1 rfl (by decide) tw_207 rfl rfl rfl rfl dX1_init_14 rfl (Nat.le_of_ble_eq_true rfl) rfl ?_
  refine n_aload_n F rfl dX1_init_17 ?_
  refine n_new (n := 2) (el' := .inr (1, [.ref (a + 1), .int (nI 0), .null, .null, .int (nI 0), .int (nI 0), .int (nI 0)]) :: ([zrE G 1 60] ++ [.inr (0, [.null, .null, .null])])) F uw0 tyX0_ok rfl tw_203 tw_107 tw_76 bk0 ⟨by decide, by decide⟩ dX1_init_18 rfl rfl ?_
  refine n_dup F dX1_init_21 rfl ?_
  refine n_ctorN (j := 2) (el' := .inr (1, [.ref (a + 1), .int (nI 0), .null, .null, .int (nI 0), .int (nI 0), .int (nI 0)]) :: ([zrE G 1 60] ++ bdB G (a + 2))) (.inr (1, [.ref (a + 1), .int (nI 0), .null, .null, .int (nI 0), .int (nI 0), .int (nI 0)]) :: ([zrE G 1 60])) F fMX0_init fiMX0_init rfl rfl tw_204 rfl dX1_init_22 rfl rfl ⟨by decide, by decide⟩ nc_Board rfl rfl rfl ?_
  refine n_putF (n := 2) (ci := 1) (el' := .inr (1, [.ref (a + 1), .int (nI 0), .ref (a + 2), .null, .int (nI 0), .int (nI 0), .int (nI 0)]) :: ([zrE G 1 60] ++ bdB G (a + 2))) F hin uw1 tyX1_ok nmX1 rfl (by decide) tw_209 rfl rfl rfl rfl rfl dX1_init_25 rfl (Nat.le_of_ble_eq_true rfl) rfl ?_
  refine n_aload_n F rfl dX1_init_28 ?_
  refine n_bipush (x := nI 8) F dX1_init_29 rfl ?_
  refine n_newa (N := 8) (n := 6) (t0 := 2) (ty := .boolean) (a0 := (8, .inl (fun _ => nI 0))) (el' := .inr (1, [.ref (a + 1), .int (nI 0), .ref (a + 2), .null, .int (nI 0), .int (nI 0), .int (nI 0)]) :: ([zrE G 1 60] ++ (bdB G (a + 2) ++ [zrE G 2 8]))) F tw_231 rfl rfl (fun _ _ h => h) rfl (by decide) (by decide) ⟨by decide, by decide⟩ dX1_init_31 rfl rfl ?_
  refine n_putF (n := 3) (ci := 1) (el' := .inr (1, [.ref (a + 1), .int (nI 0), .ref (a + 2), .ref (a + 6), .int (nI 0), .int (nI 0), .int (nI 0)]) :: ([zrE G 1 60] ++ (bdB G (a + 2) ++ [zrE G 2 8]))) F hin uw1 tyX1_ok nmX1 rfl (by decide) tw_211 rfl rfl rfl rfl rfl dX1_init_33 rfl (Nat.le_of_ble_eq_true rfl) rfl ?_
  refine n_aload_n F rfl dX1_init_36 ?_
  refine n_iconst (x := nI 0) F dX1_init_37 rfl ?_
  refine n_put (n := 4) (ci := 1) (el' := .inr (1, [.ref (a + 1), .int (nI 0), .ref (a + 2), .ref (a + 6), .int (nI 0), .int (nI 0), .int (nI 0)]) :: ([zrE G 1 60] ++ (bdB G (a + 2) ++ [zrE G 2 8]))) F uw1 tyX1_ok nmX1 rfl (by decide) tw_212 rfl rfl rfl rfl dX1_init_38 rfl (Nat.le_of_ble_eq_true rfl) rfl ?_
  refine n_aload_n F rfl dX1_init_41 ?_
  refine n_iconst (x := nI 0) F dX1_init_42 rfl ?_
  refine n_put (n := 5) (ci := 1) (el' := .inr (1, [.ref (a + 1), .int (nI 0), .ref (a + 2), .ref (a + 6), .int (nI 0), .int (nI 0), .int (nI 0)]) :: ([zrE G 1 60] ++ (bdB G (a + 2) ++ [zrE G 2 8]))) F uw1 tyX1_ok nmX1 rfl (by decide) tw_214 rfl rfl rfl rfl dX1_init_43 rfl (Nat.le_of_ble_eq_true rfl) rfl ?_
  refine n_aload_n F rfl dX1_init_46 ?_
  refine n_iconst (x := nI 0) F dX1_init_47 rfl ?_
  refine n_put (n := 6) (ci := 1) (el' := .inr (1, [.ref (a + 1), .int (nI 0), .ref (a + 2), .ref (a + 6), .int (nI 0), .int (nI 0), .int (nI 0)]) :: ([zrE G 1 60] ++ (bdB G (a + 2) ++ [zrE G 2 8]))) F uw1 tyX1_ok nmX1 rfl (by decide) tw_215 rfl rfl rfl rfl dX1_init_48 rfl (Nat.le_of_ble_eq_true rfl) rfl ?_
  exact n_vret F rfl dX1_init_51 rfl
def enB (G : GT) (ci q : Nat) : List va_E := .inr (ci, [.ref (q + 1), .ref (q + 2), .ref (q + 3), .int (nI 0)]) :: ([zrE G 0 2] ++ ([zrE G 0 2] ++ [zrE G 0 416]))
set_option maxHeartbeats 4000000 in
theorem nc_En2 {G : GT} : NC G MX2_init 2 [.null, .null, .null, .int (nI 0)] (fun q => enB G 2 q) 3 420 := by
  refine nc_of [] rfl rfl rfl (fun _ => rfl) rfl (fun a K F hin => ?_)
  refine n_aload_n F rfl dX2_init_0 ?_
  refine n_obj F tw_241 rfl dX2_init_1 ?_
  refine n_aload_n F rfl dX2_init_4 ?_
  refine n_iconst (x := nI 2) F dX2_init_5 rfl ?_
  refine n_newa (N := 2) (n := 1) (t0 := 0) (ty := .int) (a0 := (2, .inl (fun _ => nI 0))) (el' := .inr (2, [.null, .null, .null, .int (nI 0)]) :: ([zrE G 0 2])) F tw_127 rfl rfl (fun _ _ h => h) rfl (by decide) (by decide) ⟨by decide, by decide⟩ dX2_init_6 rfl rfl ?_
  refine n_putF (n := 0) (ci := 2) (el' := .inr (2, [.ref (a + 1), .null, .null, .int (nI 0)]) :: ([zrE G 0 2])) F hin uw3 tyX3_ok nmX3 rfl (by decide) tw_242 rfl rfl rfl rfl rfl dX2_init_8 rfl (Nat.le_of_ble_eq_true rfl) rfl ?_
  refine n_aload_n F rfl dX2_init_11 ?_
  refine n_iconst (x := nI 2) F dX2_init_12 rfl ?_
  refine n_newa (N := 2) (n := 2) (t0 := 0) (ty := .int) (a0 := (2, .inl (fun _ => nI 0))) (el' := .inr (2, [.ref (a + 1), .null, .null, .int (nI 0)]) :: ([zrE G 0 2] ++ [zrE G 0 2])) F tw_127 rfl rfl (fun _ _ h => h) rfl (by decide) (by decide) ⟨by decide, by decide⟩ dX2_init_13 rfl rfl ?_
  refine n_putF (n := 1) (ci := 2) (el' := .inr (2, [.ref (a + 1), .ref (a + 2), .null, .int (nI 0)]) :: ([zrE G 0 2] ++ [zrE G 0 2])) F hin uw3 tyX3_ok nmX3 rfl (by decide) tw_247 rfl rfl rfl rfl rfl dX2_init_15 rfl (Nat.le_of_ble_eq_true rfl) rfl ?_
  refine n_aload_n F rfl dX2_init_18 ?_
  refine n_sipush (x := nI 416) F dX2_init_19 rfl ?_
  refine n_newa (N := 416) (n := 3) (t0 := 0) (ty := .int) (a0 := (416, .inl (fun _ => nI 0))) (el' := .inr (2, [.ref (a + 1), .ref (a + 2), .null, .int (nI 0)]) :: ([zrE G 0 2] ++ ([zrE G 0 2] ++ [zrE G 0 416]))) F tw_127 rfl rfl (fun _ _ h => h) rfl (by decide) (by decide) ⟨by decide, by decide⟩ dX2_init_22 rfl rfl ?_
  refine n_putF (n := 2) (ci := 2) (el' := .inr (2, [.ref (a + 1), .ref (a + 2), .ref (a + 3), .int (nI 0)]) :: ([zrE G 0 2] ++ ([zrE G 0 2] ++ [zrE G 0 416]))) F hin uw3 tyX3_ok nmX3 rfl (by decide) tw_252 rfl rfl rfl rfl rfl dX2_init_24 rfl (Nat.le_of_ble_eq_true rfl) rfl ?_
  refine n_aload_n F rfl dX2_init_27 ?_
  refine n_iconst (x := nI 0) F dX2_init_28 rfl ?_
  refine n_put (n := 3) (ci := 2) (el' := .inr (2, [.ref (a + 1), .ref (a + 2), .ref (a + 3), .int (nI 0)]) :: ([zrE G 0 2] ++ ([zrE G 0 2] ++ [zrE G 0 416]))) F uw3 tyX3_ok nmX3 rfl (by decide) tw_253 rfl rfl rfl rfl dX2_init_29 rfl (Nat.le_of_ble_eq_true rfl) rfl ?_
  exact n_vret F rfl dX2_init_32 rfl
theorem enB_len (G : GT) (ci q : Nat) : (enB G ci q).length = 4 := rfl
set_option maxHeartbeats 4000000 in
theorem nc_En5 {G : GT} : NC G MX2_init 5 [.null, .null, .null, .int (nI 0)] (fun q => enB G 5 q) 3 420 := by
  refine nc_of [] rfl rfl rfl (fun _ => rfl) rfl (fun a K F hin => ?_)
  refine n_aload_n F rfl dX2_init_0 ?_
  refine n_obj F tw_241 rfl dX2_init_1 ?_
  refine n_aload_n F rfl dX2_init_4 ?_
  refine n_iconst (x := nI 2) F dX2_init_5 rfl ?_
  refine n_newa (N := 2) (n := 1) (t0 := 0) (ty := .int) (a0 := (2, .inl (fun _ => nI 0))) (el' := .inr (5, [.null, .null, .null, .int (nI 0)]) :: ([zrE G 0 2])) F tw_127 rfl rfl (fun _ _ h => h) rfl (by decide) (by decide) ⟨by decide, by decide⟩ dX2_init_6 rfl rfl ?_
  refine n_putF (n := 0) (ci := 5) (el' := .inr (5, [.ref (a + 1), .null, .null, .int (nI 0)]) :: ([zrE G 0 2])) F hin uw6 tyX6_ok nmX6 rfl (by decide) tw_242 rfl rfl rfl rfl rfl dX2_init_8 rfl (Nat.le_of_ble_eq_true rfl) rfl ?_
  refine n_aload_n F rfl dX2_init_11 ?_
  refine n_iconst (x := nI 2) F dX2_init_12 rfl ?_
  refine n_newa (N := 2) (n := 2) (t0 := 0) (ty := .int) (a0 := (2, .inl (fun _ => nI 0))) (el' := .inr (5, [.ref (a + 1), .null, .null, .int (nI 0)]) :: ([zrE G 0 2] ++ [zrE G 0 2])) F tw_127 rfl rfl (fun _ _ h => h) rfl (by decide) (by decide) ⟨by decide, by decide⟩ dX2_init_13 rfl rfl ?_
  refine n_putF (n := 1) (ci := 5) (el' := .inr (5, [.ref (a + 1), .ref (a + 2), .null, .int (nI 0)]) :: ([zrE G 0 2] ++ [zrE G 0 2])) F hin uw6 tyX6_ok nmX6 rfl (by decide) tw_247 rfl rfl rfl rfl rfl dX2_init_15 rfl (Nat.le_of_ble_eq_true rfl) rfl ?_
  refine n_aload_n F rfl dX2_init_18 ?_
  refine n_sipush (x := nI 416) F dX2_init_19 rfl ?_
  refine n_newa (N := 416) (n := 3) (t0 := 0) (ty := .int) (a0 := (416, .inl (fun _ => nI 0))) (el' := .inr (5, [.ref (a + 1), .ref (a + 2), .null, .int (nI 0)]) :: ([zrE G 0 2] ++ ([zrE G 0 2] ++ [zrE G 0 416]))) F tw_127 rfl rfl (fun _ _ h => h) rfl (by decide) (by decide) ⟨by decide, by decide⟩ dX2_init_22 rfl rfl ?_
  refine n_putF (n := 2) (ci := 5) (el' := .inr (5, [.ref (a + 1), .ref (a + 2), .ref (a + 3), .int (nI 0)]) :: ([zrE G 0 2] ++ ([zrE G 0 2] ++ [zrE G 0 416]))) F hin uw6 tyX6_ok nmX6 rfl (by decide) tw_252 rfl rfl rfl rfl rfl dX2_init_24 rfl (Nat.le_of_ble_eq_true rfl) rfl ?_
  refine n_aload_n F rfl dX2_init_27 ?_
  refine n_iconst (x := nI 0) F dX2_init_28 rfl ?_
  refine n_put (n := 3) (ci := 5) (el' := .inr (5, [.ref (a + 1), .ref (a + 2), .ref (a + 3), .int (nI 0)]) :: ([zrE G 0 2] ++ ([zrE G 0 2] ++ [zrE G 0 416]))) F uw6 tyX6_ok nmX6 rfl (by decide) tw_253 rfl rfl rfl rfl dX2_init_29 rfl (Nat.le_of_ble_eq_true rfl) rfl ?_
  exact n_vret F rfl dX2_init_32 rfl
theorem enB_2 (G : GT) (q : Nat) : (enB G 2 q).length = 4 := rfl
set_option maxHeartbeats 4000000 in
theorem nc_ForcedBudgets {G : GT} : NC G MX3_init 2 [.null, .null, .null, .int (nI 0)] (fun q => enB G 2 q) 3 420 := by
  refine nc_of [] rfl rfl rfl (fun _ => rfl) rfl (fun a K F hin => ?_)
  refine n_aload_n F rfl dX3_init_0 ?_
  refine n_ctorN (j := 0) (el' := enB G 2 a) [] F fMX2_init fiMX2_init rfl rfl tw_238 rfl dX3_init_1 rfl rfl ⟨by decide, by decide⟩ nc_En2 rfl rfl rfl ?_
  exact n_vret F rfl dX3_init_4 rfl
theorem enB_5 (G : GT) (q : Nat) : (enB G 5 q).length = 4 := rfl
set_option maxHeartbeats 4000000 in
theorem nc_Thresholds {G : GT} : NC G MX6_init 5 [.null, .null, .null, .int (nI 0)] (fun q => enB G 5 q) 3 420 := by
  refine nc_of [] rfl rfl rfl (fun _ => rfl) rfl (fun a K F hin => ?_)
  refine n_aload_n F rfl dX6_init_0 ?_
  refine n_ctorN (j := 0) (el' := enB G 5 a) [] F fMX2_init fiMX2_init rfl rfl tw_268 rfl dX6_init_1 rfl rfl ⟨by decide, by decide⟩ nc_En5 rfl rfl rfl ?_
  exact n_vret F rfl dX6_init_4 rfl
def mdB (G : GT) (q : Nat) : List va_E := .inr (7, [.ref (q + 1), .ref (q + 2), .int (nI 0), .ref (q + 3), .ref (q + 4), .ref (q + 5), .int (nI 0), .int (nI 0), .ref (q + 6), .ref (q + 7), .int (nI 0), .int (nI 0), .int (nI 0), .long 0]) :: ([.inl (gc G 0, 60, .inl (fun j => nI ((upN (upN (upN (fun _ => 0) 0 8) 1 6) 2 4) j)))] ++ ([zrE G 0 360] ++ ([zrE G 0 120] ++ ([zrE G 2 2] ++ ([zrE G 0 60] ++ ([zrE G 0 416] ++ [zrE G 0 48]))))))
set_option maxHeartbeats 4000000 in
theorem nc_BiddenMovesModel {G : GT} : NC G MX8_init 7 [.null, .null, .int (nI 0), .null, .null, .null, .int (nI 0), .int (nI 0), .null, .null, .int (nI 0), .int (nI 0), .int (nI 0), .long 0] (fun q => mdB G q) 7 1066 := by
  refine nc_of [] rfl rfl rfl (fun _ => rfl) rfl (fun a K F hin => ?_)
  refine n_aload_n F rfl dX8_init_0 ?_
  refine n_obj F tw_876 rfl dX8_init_1 ?_
  refine n_aload_n F rfl dX8_init_4 ?_
  refine n_bipush (x := nI 60) F dX8_init_5 rfl ?_
  refine n_newa (N := 60) (n := 1) (t0 := 0) (ty := .int) (a0 := (60, .inl (fun _ => nI 0))) (el' := .inr (7, [.null, .null, .int (nI 0), .null, .null, .null, .int (nI 0), .int (nI 0), .null, .null, .int (nI 0), .int (nI 0), .int (nI 0), .long 0]) :: ([zrE G 0 60])) F tw_127 rfl rfl (fun _ _ h => h) rfl (by decide) (by decide) ⟨by decide, by decide⟩ dX8_init_7 rfl rfl ?_
  refine n_putF (n := 0) (ci := 7) (el' := .inr (7, [.ref (a + 1), .null, .int (nI 0), .null, .null, .null, .int (nI 0), .int (nI 0), .null, .null, .int (nI 0), .int (nI 0), .int (nI 0), .long 0]) :: ([zrE G 0 60])) F hin uw8 tyX8_ok nmX8 rfl (by decide) tw_877 rfl rfl rfl rfl rfl dX8_init_9 rfl (Nat.le_of_ble_eq_true rfl) rfl ?_
  refine n_aload_n F rfl dX8_init_12 ?_
  refine n_sipush (x := nI 360) F dX8_init_13 rfl ?_
  refine n_newa (N := 360) (n := 2) (t0 := 0) (ty := .int) (a0 := (360, .inl (fun _ => nI 0))) (el' := .inr (7, [.ref (a + 1), .null, .int (nI 0), .null, .null, .null, .int (nI 0), .int (nI 0), .null, .null, .int (nI 0), .int (nI 0), .int (nI 0), .long 0]) :: ([zrE G 0 60] ++ [zrE G 0 360])) F tw_127 rfl rfl (fun _ _ h => h) rfl (by decide) (by decide) ⟨by decide, by decide⟩ dX8_init_16 rfl rfl ?_
  refine n_putF (n := 1) (ci := 7) (el' := .inr (7, [.ref (a + 1), .ref (a + 2), .int (nI 0), .null, .null, .null, .int (nI 0), .int (nI 0), .null, .null, .int (nI 0), .int (nI 0), .int (nI 0), .long 0]) :: ([zrE G 0 60] ++ [zrE G 0 360])) F hin uw8 tyX8_ok nmX8 rfl (by decide) tw_878 rfl rfl rfl rfl rfl dX8_init_18 rfl (Nat.le_of_ble_eq_true rfl) rfl ?_
  refine n_aload_n F rfl dX8_init_21 ?_
  refine n_bipush (x := nI 120) F dX8_init_22 rfl ?_
  refine n_newa (N := 120) (n := 3) (t0 := 0) (ty := .int) (a0 := (120, .inl (fun _ => nI 0))) (el' := .inr (7, [.ref (a + 1), .ref (a + 2), .int (nI 0), .null, .null, .null, .int (nI 0), .int (nI 0), .null, .null, .int (nI 0), .int (nI 0), .int (nI 0), .long 0]) :: ([zrE G 0 60] ++ ([zrE G 0 360] ++ [zrE G 0 120]))) F tw_127 rfl rfl (fun _ _ h => h) rfl (by decide) (by decide) ⟨by decide, by decide⟩ dX8_init_24 rfl rfl ?_
  refine n_putF (n := 3) (ci := 7) (el' := .inr (7, [.ref (a + 1), .ref (a + 2), .int (nI 0), .ref (a + 3), .null, .null, .int (nI 0), .int (nI 0), .null, .null, .int (nI 0), .int (nI 0), .int (nI 0), .long 0]) :: ([zrE G 0 60] ++ ([zrE G 0 360] ++ [zrE G 0 120]))) F hin uw8 tyX8_ok nmX8 rfl (by decide) tw_880 rfl rfl rfl rfl rfl dX8_init_26 rfl (Nat.le_of_ble_eq_true rfl) rfl ?_
  refine n_aload_n F rfl dX8_init_29 ?_
  refine n_iconst (x := nI 2) F dX8_init_30 rfl ?_
  refine n_newa (N := 2) (n := 4) (t0 := 2) (ty := .boolean) (a0 := (2, .inl (fun _ => nI 0))) (el' := .inr (7, [.ref (a + 1), .ref (a + 2), .int (nI 0), .ref (a + 3), .null, .null, .int (nI 0), .int (nI 0), .null, .null, .int (nI 0), .int (nI 0), .int (nI 0), .long 0]) :: ([zrE G 0 60] ++ ([zrE G 0 360] ++ ([zrE G 0 120] ++ [zrE G 2 2])))) F tw_231 rfl rfl (fun _ _ h => h) rfl (by decide) (by decide) ⟨by decide, by decide⟩ dX8_init_31 rfl rfl ?_
  refine n_putF (n := 4) (ci := 7) (el' := .inr (7, [.ref (a + 1), .ref (a + 2), .int (nI 0), .ref (a + 3), .ref (a + 4), .null, .int (nI 0), .int (nI 0), .null, .null, .int (nI 0), .int (nI 0), .int (nI 0), .long 0]) :: ([zrE G 0 60] ++ ([zrE G 0 360] ++ ([zrE G 0 120] ++ [zrE G 2 2])))) F hin uw8 tyX8_ok nmX8 rfl (by decide) tw_881 rfl rfl rfl rfl rfl dX8_init_33 rfl (Nat.le_of_ble_eq_true rfl) rfl ?_
  refine n_aload_n F rfl dX8_init_36 ?_
  refine n_bipush (x := nI 60) F dX8_init_37 rfl ?_
  refine n_newa (N := 60) (n := 5) (t0 := 0) (ty := .int) (a0 := (60, .inl (fun _ => nI 0))) (el' := .inr (7, [.ref (a + 1), .ref (a + 2), .int (nI 0), .ref (a + 3), .ref (a + 4), .null, .int (nI 0), .int (nI 0), .null, .null, .int (nI 0), .int (nI 0), .int (nI 0), .long 0]) :: ([zrE G 0 60] ++ ([zrE G 0 360] ++ ([zrE G 0 120] ++ ([zrE G 2 2] ++ [zrE G 0 60]))))) F tw_127 rfl rfl (fun _ _ h => h) rfl (by decide) (by decide) ⟨by decide, by decide⟩ dX8_init_39 rfl rfl ?_
  refine n_putF (n := 5) (ci := 7) (el' := .inr (7, [.ref (a + 1), .ref (a + 2), .int (nI 0), .ref (a + 3), .ref (a + 4), .ref (a + 5), .int (nI 0), .int (nI 0), .null, .null, .int (nI 0), .int (nI 0), .int (nI 0), .long 0]) :: ([zrE G 0 60] ++ ([zrE G 0 360] ++ ([zrE G 0 120] ++ ([zrE G 2 2] ++ [zrE G 0 60]))))) F hin uw8 tyX8_ok nmX8 rfl (by decide) tw_882 rfl rfl rfl rfl rfl dX8_init_41 rfl (Nat.le_of_ble_eq_true rfl) rfl ?_
  refine n_aload_n F rfl dX8_init_44 ?_
  refine n_sipush (x := nI 416) F dX8_init_45 rfl ?_
  refine n_newa (N := 416) (n := 6) (t0 := 0) (ty := .int) (a0 := (416, .inl (fun _ => nI 0))) (el' := .inr (7, [.ref (a + 1), .ref (a + 2), .int (nI 0), .ref (a + 3), .ref (a + 4), .ref (a + 5), .int (nI 0), .int (nI 0), .null, .null, .int (nI 0), .int (nI 0), .int (nI 0), .long 0]) :: ([zrE G 0 60] ++ ([zrE G 0 360] ++ ([zrE G 0 120] ++ ([zrE G 2 2] ++ ([zrE G 0 60] ++ [zrE G 0 416])))))) F tw_127 rfl rfl (fun _ _ h => h) rfl (by decide) (by decide) ⟨by decide, by decide⟩ dX8_init_48 rfl rfl ?_
  refine n_putF (n := 8) (ci := 7) (el' := .inr (7, [.ref (a + 1), .ref (a + 2), .int (nI 0), .ref (a + 3), .ref (a + 4), .ref (a + 5), .int (nI 0), .int (nI 0), .ref (a + 6), .null, .int (nI 0), .int (nI 0), .int (nI 0), .long 0]) :: ([zrE G 0 60] ++ ([zrE G 0 360] ++ ([zrE G 0 120] ++ ([zrE G 2 2] ++ ([zrE G 0 60] ++ [zrE G 0 416])))))) F hin uw8 tyX8_ok nmX8 rfl (by decide) tw_885 rfl rfl rfl rfl rfl dX8_init_50 rfl (Nat.le_of_ble_eq_true rfl) rfl ?_
  refine n_aload_n F rfl dX8_init_53 ?_
  refine n_bipush (x := nI 48) F dX8_init_54 rfl ?_
  refine n_newa (N := 48) (n := 7) (t0 := 0) (ty := .int) (a0 := (48, .inl (fun _ => nI 0))) (el' := .inr (7, [.ref (a + 1), .ref (a + 2), .int (nI 0), .ref (a + 3), .ref (a + 4), .ref (a + 5), .int (nI 0), .int (nI 0), .ref (a + 6), .null, .int (nI 0), .int (nI 0), .int (nI 0), .long 0]) :: ([zrE G 0 60] ++ ([zrE G 0 360] ++ ([zrE G 0 120] ++ ([zrE G 2 2] ++ ([zrE G 0 60] ++ ([zrE G 0 416] ++ [zrE G 0 48]))))))) F tw_127 rfl rfl (fun _ _ h => h) rfl (by decide) (by decide) ⟨by decide, by decide⟩ dX8_init_56 rfl rfl ?_
  refine n_putF (n := 9) (ci := 7) (el' := .inr (7, [.ref (a + 1), .ref (a + 2), .int (nI 0), .ref (a + 3), .ref (a + 4), .ref (a + 5), .int (nI 0), .int (nI 0), .ref (a + 6), .ref (a + 7), .int (nI 0), .int (nI 0), .int (nI 0), .long 0]) :: ([zrE G 0 60] ++ ([zrE G 0 360] ++ ([zrE G 0 120] ++ ([zrE G 2 2] ++ ([zrE G 0 60] ++ ([zrE G 0 416] ++ [zrE G 0 48]))))))) F hin uw8 tyX8_ok nmX8 rfl (by decide) tw_886 rfl rfl rfl rfl rfl dX8_init_58 rfl (Nat.le_of_ble_eq_true rfl) rfl ?_
  refine n_aload_n F rfl dX8_init_61 ?_
  refine n_get (n := 0) (ci := 7) (x := .ref (a + 1)) F uw8 rfl (by decide) tw_877 rfl dX8_init_62 rfl rfl ?_
  refine n_iconst (x := nI 0) F dX8_init_65 rfl ?_
  refine n_bipush (x := nI 8) F dX8_init_66 rfl ?_
  refine n_iast (i := 1) (n := 60) (f := fun _ => 0) (el' := .inr (7, [.ref (a + 1), .ref (a + 2), .int (nI 0), .ref (a + 3), .ref (a + 4), .ref (a + 5), .int (nI 0), .int (nI 0), .ref (a + 6), .ref (a + 7), .int (nI 0), .int (nI 0), .int (nI 0), .long 0]) :: ([.inl (gc G 0, 60, .inl (fun j => nI ((upN (fun _ => 0) 0 8) j)))] ++ ([zrE G 0 360] ++ ([zrE G 0 120] ++ ([zrE G 2 2] ++ ([zrE G 0 60] ++ ([zrE G 0 416] ++ [zrE G 0 48]))))))) F dX8_init_68 rfl (by decide) (by decide) rfl ?_
  refine n_aload_n F rfl dX8_init_69 ?_
  refine n_get (n := 0) (ci := 7) (x := .ref (a + 1)) F uw8 rfl (by decide) tw_877 rfl dX8_init_70 rfl rfl ?_
  refine n_iconst (x := nI 1) F dX8_init_73 rfl ?_
  refine n_bipush (x := nI 6) F dX8_init_74 rfl ?_
  refine n_iast (i := 1) (n := 60) (f := upN (fun _ => 0) 0 8) (el' := .inr (7, [.ref (a + 1), .ref (a + 2), .int (nI 0), .ref (a + 3), .ref (a + 4), .ref (a + 5), .int (nI 0), .int (nI 0), .ref (a + 6), .ref (a + 7), .int (nI 0), .int (nI 0), .int (nI 0), .long 0]) :: ([.inl (gc G 0, 60, .inl (fun j => nI ((upN (upN (fun _ => 0) 0 8) 1 6) j)))] ++ ([zrE G 0 360] ++ ([zrE G 0 120] ++ ([zrE G 2 2] ++ ([zrE G 0 60] ++ ([zrE G 0 416] ++ [zrE G 0 48]))))))) F dX8_init_76 rfl (by decide) (by decide) rfl ?_
  refine n_aload_n F rfl dX8_init_77 ?_
  refine n_get (n := 0) (ci := 7) (x := .ref (a + 1)) F uw8 rfl (by decide) tw_877 rfl dX8_init_78 rfl rfl ?_
  refine n_iconst (x := nI 2) F dX8_init_81 rfl ?_
  refine n_iconst (x := nI 4) F dX8_init_82 rfl ?_
  refine n_iast (i := 1) (n := 60) (f := upN (upN (fun _ => 0) 0 8) 1 6) (el' := .inr (7, [.ref (a + 1), .ref (a + 2), .int (nI 0), .ref (a + 3), .ref (a + 4), .ref (a + 5), .int (nI 0), .int (nI 0), .ref (a + 6), .ref (a + 7), .int (nI 0), .int (nI 0), .int (nI 0), .long 0]) :: ([.inl (gc G 0, 60, .inl (fun j => nI ((upN (upN (upN (fun _ => 0) 0 8) 1 6) 2 4) j)))] ++ ([zrE G 0 360] ++ ([zrE G 0 120] ++ ([zrE G 2 2] ++ ([zrE G 0 60] ++ ([zrE G 0 416] ++ [zrE G 0 48]))))))) F dX8_init_83 rfl (by decide) (by decide) rfl ?_
  exact n_vret F rfl dX8_init_84 rfl
def sts (G : GT) (q : Nat) : Nat → List va_E
  | 0 => []
  | n + 1 => sts G q n ++ stB G (q + 7 * n)
theorem sts_len (G : GT) (q : Nat) : ∀ n, (sts G q n).length = 7 * n
  | 0 => rfl
  | n + 1 => by
    show (sts G q n ++ stB G (q + 7 * n)).length = _
    rw [List.length_append, sts_len G q n]
    show 7 * n + 7 = _
    omega
theorem st_len {G : GT} {P : List va_E} {p q i : Nat} (hp : P.length = p) : (P ++ sts G q i).length = p + 7 * i := by rw [List.length_append, hp, sts_len]
theorem st_at {G : GT} {P : List va_E} {p q r i : Nat} (hp : P.length = p) : (P ++ (sts G q i ++ stB G r))[p + 7 * i]? = some (.inr (4, [.ref (r + 1), .int (nI 8), .int (nI 6), .int (nI 0), .int (nI 4), .int (nI 0), .int (nI 4294967295), .ref (r + 5), .ref (r + 6), .int (nI 0), .int (nI 0)])) := by
  rw [← List.append_assoc, List.getElem?_append_right (by rw [st_len hp]; exact Nat.le_refl _), st_len hp, Nat.sub_self]
  rfl
theorem st_set {G : GT} {P P' : List va_E} {p a k i : Nat} {e : va_E} (hk : k < P.length) (h : P.set k e = P') : (P ++ (sts G (a + p) i ++ stB G (a + (p + 7 * i)))).set k e = P' ++ sts G (a + p) (i + 1) := by
  rw [List.set_append_left _ _ hk, h, ← Nat.add_assoc]
  rfl
def svPr (G : GT) (q i : Nat) : List va_E := .inr (3, [.ref (q + 1), .int (nI 0), .int (nI 0)]) :: [qr G (q + 2) 6 i]
theorem svPr_len (G : GT) (q i : Nat) : (svPr G q i).length = 2 := rfl
theorem svPr_set (G : GT) (q i : Nat) : (svPr G q i).set 1 (qr G (q + 2) 6 (i + 1)) = svPr G q (i + 1) := rfl
def svB (G : GT) (q : Nat) : List va_E := svPr G q 6 ++ sts G (q + 2) 6
set_option maxHeartbeats 4000000 in
theorem svPr_loop {G : GT} {K : KT} {a : Nat} (F : Fn G K MX4_init 43 402 a) : ∀ (n i : Nat), 6 ≤ i + n → i ≤ 6 → NW G K 2 (1 + 7 * i) (6 + 66 * i) (MQ (kb K) (QnN G (fun q => svB G q) a) (ka K) (ks K) 43 402 (fun q => a ≤ q)) a (svPr G a i ++ sts G (a + 2) i) 25 [some (.ref a), some (.int (nI i))] [] := by
  intro n
  induction n with
  | zero =>
    intro i h1 h2
    refine n_iload_n F rfl dX4_init_25 ?_
    refine n_bipush (x := nI 6) F dX4_init_26 rfl ?_
    refine n_icge F dX4_init_28 (by omega) (by omega) (fun h => ?_) (fun h => ?_)
    · have e : i = 6 := by omega
      subst e
      exact n_vret F rfl dX4_init_50 rfl
    · omega
  | succ n ih =>
    intro i h1 h2
    refine n_iload_n F rfl dX4_init_25 ?_
    refine n_bipush (x := nI 6) F dX4_init_26 rfl ?_
    refine n_icge F dX4_init_28 (by omega) (by omega) (fun h => ?_) (fun h => ?_)
    · have e : i = 6 := by omega
      subst e
      exact n_vret F rfl dX4_init_50 rfl
    · refine n_aload_n F rfl dX4_init_31 ?_
      refine n_get (n := 0) (ci := 3) (x := .ref (a + 1)) F uw4 rfl (by decide) tw_186 rfl dX4_init_32 rfl rfl ?_
      refine n_iload_n F rfl dX4_init_35 ?_
      refine n_new (n := 2 + 7 * i) (el' := svPr G a i ++ (sts G (a + 2) i ++ [.inr (4, [.null, .int (nI 0), .int (nI 0), .int (nI 0), .int (nI 0), .int (nI 0), .int (nI 0), .null, .null, .int (nI 0), .int (nI 0)])])) F uw5 tyX5_ok rfl tw_183 tw_101 tw_75 bk4 ⟨by omega, by omega⟩ dX4_init_36 (st_len rfl) (List.append_assoc _ _ _) ?_
      refine n_dup F dX4_init_39 rfl ?_
      refine n_ctorN (j := 2 + 7 * i) (el' := svPr G a i ++ (sts G (a + 2) i ++ stB G (a + (2 + 7 * i)))) (svPr G a i ++ sts G (a + 2) i) F fMX5_init fiMX5_init rfl rfl tw_185 rfl dX4_init_40 rfl rfl ⟨by omega, by omega⟩ nc_State (List.append_assoc _ _ _).symm (st_len rfl) (List.append_assoc _ _ _) ?_
      refine n_aast (i := 1) (i2 := 2 + 7 * i) (n := 6) (x := i) (f := fq (a + 2) i) (el' := svPr G a (i + 1) ++ sts G (a + 2) (i + 1)) F dX4_init_43 rfl (st_at rfl) (by omega) (by decide) ?_ ?_
      · rw [← Nat.add_assoc a 2, fq_s, Nat.add_assoc]
        exact st_set (by rw [svPr_len]; decide) (svPr_set G a i)
      refine n_iinc1 F dX4_init_44 rfl rfl ?_
      refine n_goto F dX4_init_47 ?_
      have := ih (i + 1) (by omega) (by omega)
      rw [show 1 + 7 * (i + 1) = 1 + 7 * i + 1 + 6 by omega, show 6 + 66 * (i + 1) = 6 + 66 * i + 11 + 55 by omega] at this
      exact this
theorem svPr_0 (G : GT) (q : Nat) : svPr G q 0 ++ sts G (q + 2) 0 = svPr G q 0 := List.append_nil _
set_option maxHeartbeats 4000000 in
theorem nc_SavedStates {G : GT} : NC G MX4_init 3 [.null, .int (nI 0), .int (nI 0)] (fun q => svB G q) 43 402 := by
  refine nc_of [none] rfl rfl rfl (fun _ => rfl) rfl (fun a K F hin => ?_)
  refine n_aload_n F rfl dX4_init_0 ?_
  refine n_obj F tw_182 rfl dX4_init_1 ?_
  refine n_aload_n F rfl dX4_init_4 ?_
  refine n_bipush (x := nI 6) F dX4_init_5 rfl ?_
  refine n_newq (N := 6) (n := 1) (el' := .inr (3, [.null, .int (nI 0), .int (nI 0)]) :: ([.inl (gc G 4, 6, .inr (.inr (.inr (.inr (fun _ => none)))))])) F tw_183 (by decide) ⟨by decide, by decide⟩ dX4_init_7 rfl rfl ?_
  refine n_eq (el2 := .inr (3, [.null, .int (nI 0), .int (nI 0)]) :: ([qr G (a + 2) 6 0])) (by rw [qr_0]) ?_
  refine n_putF (n := 0) (ci := 3) (el' := .inr (3, [.ref (a + 1), .int (nI 0), .int (nI 0)]) :: ([qr G (a + 2) 6 0])) F hin uw4 tyX4_ok nmX4 rfl (by decide) tw_186 rfl rfl rfl rfl rfl dX4_init_10 rfl (Nat.le_of_ble_eq_true rfl) rfl ?_
  refine n_aload_n F rfl dX4_init_13 ?_
  refine n_iconst (x := nI 0) F dX4_init_14 rfl ?_
  refine n_put (n := 1) (ci := 3) (el' := .inr (3, [.ref (a + 1), .int (nI 0), .int (nI 0)]) :: ([qr G (a + 2) 6 0])) F uw4 tyX4_ok nmX4 rfl (by decide) tw_187 rfl rfl rfl rfl dX4_init_15 rfl (Nat.le_of_ble_eq_true rfl) rfl ?_
  refine n_aload_n F rfl dX4_init_18 ?_
  refine n_iconst (x := nI 0) F dX4_init_19 rfl ?_
  refine n_put (n := 2) (ci := 3) (el' := .inr (3, [.ref (a + 1), .int (nI 0), .int (nI 0)]) :: ([qr G (a + 2) 6 0])) F uw4 tyX4_ok nmX4 rfl (by decide) tw_188 rfl rfl rfl rfl dX4_init_20 rfl (Nat.le_of_ble_eq_true rfl) rfl ?_
  refine n_iconst (x := nI 0) F dX4_init_23 rfl ?_
  refine n_ist1 F dX4_init_24 rfl rfl ?_
  have h9 := svPr_loop F 6 0 (by decide) (by decide)
  rw [svPr_0] at h9
  exact h9
def clPr (G : GT) (q i : Nat) : List va_E := .inr (6, [.ref (q + 1), .ref (q + 8), .ref (q + 52), .ref (q + 53), .ref (q + 54), .ref (q + 61), .ref (q + 65)]) :: (stB G (q + 1) ++ (svB G (q + 8) ++ ([qr G (q + 69) 2 i] ++ ([zrE G 2 2] ++ (txB G (q + 54) ++ (enB G 2 (q + 61) ++ enB G 5 (q + 65)))))))
theorem clPr_len (G : GT) (q i : Nat) : (clPr G q i).length = 69 := rfl
theorem clPr_set (G : GT) (q i : Nat) : (clPr G q i).set 52 (qr G (q + 69) 2 (i + 1)) = clPr G q (i + 1) := rfl
def clB (G : GT) (q : Nat) : List va_E := clPr G q 2 ++ sts G (q + 69) 2
set_option maxHeartbeats 4000000 in
theorem clPr_loop {G : GT} {K : KT} {a : Nat} (F : Fn G K MX7_init 82 1581 a) : ∀ (n i : Nat), 2 ≤ i + n → i ≤ 2 → NW G K 2 (68 + 7 * i) (1449 + 66 * i) (MQ (kb K) (QnN G (fun q => clB G q) a) (ka K) (ks K) 82 1581 (fun q => a ≤ q)) a (clPr G a i ++ sts G (a + 69) i) 76 [some (.ref a), some (.int (nI i))] [] := by
  intro n
  induction n with
  | zero =>
    intro i h1 h2
    refine n_iload_n F rfl dX7_init_76 ?_
    refine n_iconst (x := nI 2) F dX7_init_77 rfl ?_
    refine n_icge F dX7_init_78 (by omega) (by omega) (fun h => ?_) (fun h => ?_)
    · have e : i = 2 := by omega
      subst e
      exact n_vret F rfl dX7_init_100 rfl
    · omega
  | succ n ih =>
    intro i h1 h2
    refine n_iload_n F rfl dX7_init_76 ?_
    refine n_iconst (x := nI 2) F dX7_init_77 rfl ?_
    refine n_icge F dX7_init_78 (by omega) (by omega) (fun h => ?_) (fun h => ?_)
    · have e : i = 2 := by omega
      subst e
      exact n_vret F rfl dX7_init_100 rfl
    · refine n_aload_n F rfl dX7_init_81 ?_
      refine n_get (n := 2) (ci := 6) (x := .ref (a + 52)) F uw7 rfl (by decide) tw_276 rfl dX7_init_82 rfl rfl ?_
      refine n_iload_n F rfl dX7_init_85 ?_
      refine n_new (n := 69 + 7 * i) (el' := clPr G a i ++ (sts G (a + 69) i ++ [.inr (4, [.null, .int (nI 0), .int (nI 0), .int (nI 0), .int (nI 0), .int (nI 0), .int (nI 0), .null, .null, .int (nI 0), .int (nI 0)])])) F uw5 tyX5_ok rfl tw_100 tw_101 tw_75 bk4 ⟨by omega, by omega⟩ dX7_init_86 (st_len rfl) (List.append_assoc _ _ _) ?_
      refine n_dup F dX7_init_89 rfl ?_
      refine n_ctorN (j := 69 + 7 * i) (el' := clPr G a i ++ (sts G (a + 69) i ++ stB G (a + (69 + 7 * i)))) (clPr G a i ++ sts G (a + 69) i) F fMX5_init fiMX5_init rfl rfl tw_102 rfl dX7_init_90 rfl rfl ⟨by omega, by omega⟩ nc_State (List.append_assoc _ _ _).symm (st_len rfl) (List.append_assoc _ _ _) ?_
      refine n_aast (i := 52) (i2 := 69 + 7 * i) (n := 2) (x := i) (f := fq (a + 69) i) (el' := clPr G a (i + 1) ++ sts G (a + 69) (i + 1)) F dX7_init_93 rfl (st_at rfl) (by omega) (by decide) ?_ ?_
      · rw [← Nat.add_assoc a 69, fq_s, Nat.add_assoc]
        exact st_set (by rw [clPr_len]; decide) (clPr_set G a i)
      refine n_iinc1 F dX7_init_94 rfl rfl ?_
      refine n_goto F dX7_init_97 ?_
      have := ih (i + 1) (by omega) (by omega)
      rw [show 68 + 7 * (i + 1) = 68 + 7 * i + 1 + 6 by omega, show 1449 + 66 * (i + 1) = 1449 + 66 * i + 11 + 55 by omega] at this
      exact this
theorem clPr_0 (G : GT) (q : Nat) : clPr G q 0 ++ sts G (q + 69) 0 = clPr G q 0 := List.append_nil _
set_option maxHeartbeats 4000000 in
theorem nc_BiddenMoves {G : GT} : NC G MX7_init 6 [.null, .null, .null, .null, .null, .null, .null] (fun q => clB G q) 82 1581 := by
  refine nc_of [none] rfl rfl rfl (fun _ => rfl) rfl (fun a K F hin => ?_)
  refine n_aload_n F rfl dX7_init_0 ?_
  refine n_obj F tw_97 rfl dX7_init_1 ?_
  refine n_aload_n F rfl dX7_init_4 ?_
  refine n_new (n := 1) (el' := .inr (6, [.null, .null, .null, .null, .null, .null, .null]) :: ([.inr (4, [.null, .int (nI 0), .int (nI 0), .int (nI 0), .int (nI 0), .int (nI 0), .int (nI 0), .null, .null, .int (nI 0), .int (nI 0)])])) F uw5 tyX5_ok rfl tw_100 tw_101 tw_75 bk4 ⟨by decide, by decide⟩ dX7_init_5 rfl rfl ?_
  refine n_dup F dX7_init_8 rfl ?_
  refine n_ctorN (j := 1) (el' := .inr (6, [.null, .null, .null, .null, .null, .null, .null]) :: (stB G (a + 1))) ([.inr (6, [.null, .null, .null, .null, .null, .null, .null])]) F fMX5_init fiMX5_init rfl rfl tw_102 rfl dX7_init_9 rfl rfl ⟨by decide, by decide⟩ nc_State rfl rfl rfl ?_
  refine n_putF (n := 0) (ci := 6) (el' := .inr (6, [.ref (a + 1), .null, .null, .null, .null, .null, .null]) :: (stB G (a + 1))) F hin uw7 tyX7_ok nmX7 rfl (by decide) tw_274 rfl rfl rfl rfl rfl dX7_init_12 rfl (Nat.le_of_ble_eq_true rfl) rfl ?_
  refine n_aload_n F rfl dX7_init_15 ?_
  refine n_new (n := 8) (el' := .inr (6, [.ref (a + 1), .null, .null, .null, .null, .null, .null]) :: (stB G (a + 1) ++ [.inr (3, [.null, .int (nI 0), .int (nI 0)])])) F uw4 tyX4_ok rfl tw_177 tw_178 tw_77 bk3 ⟨by decide, by decide⟩ dX7_init_16 rfl rfl ?_
  refine n_dup F dX7_init_19 rfl ?_
  refine n_ctorN (j := 8) (el' := .inr (6, [.ref (a + 1), .null, .null, .null, .null, .null, .null]) :: (stB G (a + 1) ++ svB G (a + 8))) (.inr (6, [.ref (a + 1), .null, .null, .null, .null, .null, .null]) :: (stB G (a + 1))) F fMX4_init fiMX4_init rfl rfl tw_179 rfl dX7_init_20 rfl rfl ⟨by decide, by decide⟩ nc_SavedStates rfl rfl rfl ?_
  refine n_putF (n := 1) (ci := 6) (el' := .inr (6, [.ref (a + 1), .ref (a + 8), .null, .null, .null, .null, .null]) :: (stB G (a + 1) ++ svB G (a + 8))) F hin uw7 tyX7_ok nmX7 rfl (by decide) tw_275 rfl rfl rfl rfl rfl dX7_init_23 rfl (Nat.le_of_ble_eq_true rfl) rfl ?_
  refine n_aload_n F rfl dX7_init_26 ?_
  refine n_iconst (x := nI 2) F dX7_init_27 rfl ?_
  refine n_newq (N := 2) (n := 52) (el' := .inr (6, [.ref (a + 1), .ref (a + 8), .null, .null, .null, .null, .null]) :: (stB G (a + 1) ++ (svB G (a + 8) ++ [.inl (gc G 4, 2, .inr (.inr (.inr (.inr (fun _ => none)))))]))) F tw_100 (by decide) ⟨by decide, by decide⟩ dX7_init_28 rfl rfl ?_
  refine n_eq (el2 := .inr (6, [.ref (a + 1), .ref (a + 8), .null, .null, .null, .null, .null]) :: (stB G (a + 1) ++ (svB G (a + 8) ++ [qr G (a + 69) 2 0]))) (by rw [qr_0]) ?_
  refine n_putF (n := 2) (ci := 6) (el' := .inr (6, [.ref (a + 1), .ref (a + 8), .ref (a + 52), .null, .null, .null, .null]) :: (stB G (a + 1) ++ (svB G (a + 8) ++ [qr G (a + 69) 2 0]))) F hin uw7 tyX7_ok nmX7 rfl (by decide) tw_276 rfl rfl rfl rfl rfl dX7_init_31 rfl (Nat.le_of_ble_eq_true rfl) rfl ?_
  refine n_aload_n F rfl dX7_init_34 ?_
  refine n_iconst (x := nI 2) F dX7_init_35 rfl ?_
  refine n_newa (N := 2) (n := 53) (t0 := 2) (ty := .boolean) (a0 := (2, .inl (fun _ => nI 0))) (el' := .inr (6, [.ref (a + 1), .ref (a + 8), .ref (a + 52), .null, .null, .null, .null]) :: (stB G (a + 1) ++ (svB G (a + 8) ++ ([qr G (a + 69) 2 0] ++ [zrE G 2 2])))) F tw_231 rfl rfl (fun _ _ h => h) rfl (by decide) (by decide) ⟨by decide, by decide⟩ dX7_init_36 rfl rfl ?_
  refine n_putF (n := 3) (ci := 6) (el' := .inr (6, [.ref (a + 1), .ref (a + 8), .ref (a + 52), .ref (a + 53), .null, .null, .null]) :: (stB G (a + 1) ++ (svB G (a + 8) ++ ([qr G (a + 69) 2 0] ++ [zrE G 2 2])))) F hin uw7 tyX7_ok nmX7 rfl (by decide) tw_277 rfl rfl rfl rfl rfl dX7_init_38 rfl (Nat.le_of_ble_eq_true rfl) rfl ?_
  refine n_aload_n F rfl dX7_init_41 ?_
  refine n_new (n := 54) (el' := .inr (6, [.ref (a + 1), .ref (a + 8), .ref (a + 52), .ref (a + 53), .null, .null, .null]) :: (stB G (a + 1) ++ (svB G (a + 8) ++ ([qr G (a + 69) 2 0] ++ ([zrE G 2 2] ++ [.inr (1, [.null, .int (nI 0), .null, .null, .int (nI 0), .int (nI 0), .int (nI 0)])]))))) F uw1 tyX1_ok rfl tw_197 tw_198 tw_78 bk1 ⟨by decide, by decide⟩ dX7_init_42 rfl rfl ?_
  refine n_dup F dX7_init_45 rfl ?_
  refine n_ctorN (j := 54) (el' := .inr (6, [.ref (a + 1), .ref (a + 8), .ref (a + 52), .ref (a + 53), .null, .null, .null]) :: (stB G (a + 1) ++ (svB G (a + 8) ++ ([qr G (a + 69) 2 0] ++ ([zrE G 2 2] ++ txB G (a + 54)))))) (.inr (6, [.ref (a + 1), .ref (a + 8), .ref (a + 52), .ref (a + 53), .null, .null, .null]) :: (stB G (a + 1) ++ (svB G (a + 8) ++ ([qr G (a + 69) 2 0] ++ [zrE G 2 2])))) F fMX1_init fiMX1_init rfl rfl tw_199 rfl dX7_init_46 rfl rfl ⟨by decide, by decide⟩ nc_BoardText rfl rfl rfl ?_
  refine n_putF (n := 4) (ci := 6) (el' := .inr (6, [.ref (a + 1), .ref (a + 8), .ref (a + 52), .ref (a + 53), .ref (a + 54), .null, .null]) :: (stB G (a + 1) ++ (svB G (a + 8) ++ ([qr G (a + 69) 2 0] ++ ([zrE G 2 2] ++ txB G (a + 54)))))) F hin uw7 tyX7_ok nmX7 rfl (by decide) tw_278 rfl rfl rfl rfl rfl dX7_init_49 rfl (Nat.le_of_ble_eq_true rfl) rfl ?_
  refine n_aload_n F rfl dX7_init_52 ?_
  refine n_new (n := 61) (el' := .inr (6, [.ref (a + 1), .ref (a + 8), .ref (a + 52), .ref (a + 53), .ref (a + 54), .null, .null]) :: (stB G (a + 1) ++ (svB G (a + 8) ++ ([qr G (a + 69) 2 0] ++ ([zrE G 2 2] ++ (txB G (a + 54) ++ [.inr (2, [.null, .null, .null, .int (nI 0)])])))))) F uw3 tyX3_ok rfl tw_233 tw_234 tw_80 bk2 ⟨by decide, by decide⟩ dX7_init_53 rfl rfl ?_
  refine n_dup F dX7_init_56 rfl ?_
  refine n_ctorN (j := 61) (el' := .inr (6, [.ref (a + 1), .ref (a + 8), .ref (a + 52), .ref (a + 53), .ref (a + 54), .null, .null]) :: (stB G (a + 1) ++ (svB G (a + 8) ++ ([qr G (a + 69) 2 0] ++ ([zrE G 2 2] ++ (txB G (a + 54) ++ enB G 2 (a + 61))))))) (.inr (6, [.ref (a + 1), .ref (a + 8), .ref (a + 52), .ref (a + 53), .ref (a + 54), .null, .null]) :: (stB G (a + 1) ++ (svB G (a + 8) ++ ([qr G (a + 69) 2 0] ++ ([zrE G 2 2] ++ txB G (a + 54)))))) F fMX3_init fiMX3_init rfl rfl tw_235 rfl dX7_init_57 rfl rfl ⟨by decide, by decide⟩ nc_ForcedBudgets rfl rfl rfl ?_
  refine n_putF (n := 5) (ci := 6) (el' := .inr (6, [.ref (a + 1), .ref (a + 8), .ref (a + 52), .ref (a + 53), .ref (a + 54), .ref (a + 61), .null]) :: (stB G (a + 1) ++ (svB G (a + 8) ++ ([qr G (a + 69) 2 0] ++ ([zrE G 2 2] ++ (txB G (a + 54) ++ enB G 2 (a + 61))))))) F hin uw7 tyX7_ok nmX7 rfl (by decide) tw_279 rfl rfl rfl rfl rfl dX7_init_60 rfl (Nat.le_of_ble_eq_true rfl) rfl ?_
  refine n_aload_n F rfl dX7_init_63 ?_
  refine n_new (n := 65) (el' := .inr (6, [.ref (a + 1), .ref (a + 8), .ref (a + 52), .ref (a + 53), .ref (a + 54), .ref (a + 61), .null]) :: (stB G (a + 1) ++ (svB G (a + 8) ++ ([qr G (a + 69) 2 0] ++ ([zrE G 2 2] ++ (txB G (a + 54) ++ (enB G 2 (a + 61) ++ [.inr (5, [.null, .null, .null, .int (nI 0)])]))))))) F uw6 tyX6_ok rfl tw_263 tw_264 tw_81 bk5 ⟨by decide, by decide⟩ dX7_init_64 rfl rfl ?_
  refine n_dup F dX7_init_67 rfl ?_
  refine n_ctorN (j := 65) (el' := .inr (6, [.ref (a + 1), .ref (a + 8), .ref (a + 52), .ref (a + 53), .ref (a + 54), .ref (a + 61), .null]) :: (stB G (a + 1) ++ (svB G (a + 8) ++ ([qr G (a + 69) 2 0] ++ ([zrE G 2 2] ++ (txB G (a + 54) ++ (enB G 2 (a + 61) ++ enB G 5 (a + 65)))))))) (.inr (6, [.ref (a + 1), .ref (a + 8), .ref (a + 52), .ref (a + 53), .ref (a + 54), .ref (a + 61), .null]) :: (stB G (a + 1) ++ (svB G (a + 8) ++ ([qr G (a + 69) 2 0] ++ ([zrE G 2 2] ++ (txB G (a + 54) ++ enB G 2 (a + 61))))))) F fMX6_init fiMX6_init rfl rfl tw_265 rfl dX7_init_68 rfl rfl ⟨by decide, by decide⟩ nc_Thresholds rfl rfl rfl ?_
  refine n_putF (n := 6) (ci := 6) (el' := .inr (6, [.ref (a + 1), .ref (a + 8), .ref (a + 52), .ref (a + 53), .ref (a + 54), .ref (a + 61), .ref (a + 65)]) :: (stB G (a + 1) ++ (svB G (a + 8) ++ ([qr G (a + 69) 2 0] ++ ([zrE G 2 2] ++ (txB G (a + 54) ++ (enB G 2 (a + 61) ++ enB G 5 (a + 65)))))))) F hin uw7 tyX7_ok nmX7 rfl (by decide) tw_280 rfl rfl rfl rfl rfl dX7_init_71 rfl (Nat.le_of_ble_eq_true rfl) rfl ?_
  refine n_iconst (x := nI 0) F dX7_init_74 rfl ?_
  refine n_ist1 F dX7_init_75 rfl rfl ?_
  have h9 := clPr_loop F 2 0 (by decide) (by decide)
  rw [clPr_0] at h9
  exact h9
