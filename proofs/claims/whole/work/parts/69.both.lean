/-! both sides of a call: the wrapper's and the model's -/
def MF2 (v : VV) (L : LL) (a' : AS) (k : Nat) (x : Int32) : Int32 → VV → LL → Prop := fun y v' L' => L' = L ∧ FrM v v' ∧ v' 83 7 = k ∧ IM v' a' ∧ (k = 0 → y = x)
/-- what a call does to both, k the number of the exception -/
def OB (G : GT) (ML M8 : MD) (hh : HH) (xs : List Value) (a : AS) : Prop := ∃ (k : Nat) (x : Int32) (a' : AS), k < 9 ∧ WA a' ∧ (∀ v L, IC v a → CH G ML hh (.ref (gB G 0) :: (xs ++ [.ref (gB G 91)])) v L (gI (WF v a' k x))) ∧ ∀ v L, IM v a → CC G M8 (.ref (gB G 83) :: xs) v L (gI (MF2 v L a' k x))
theorem ob0 {G : GT} {ML M8 : MD} {hh : HH} {xs : List Value} {a a' : AS} {x : Int32} (wa : WA a') (h1 : ∀ v L, IC v a → CH G ML hh (.ref (gB G 0) :: (xs ++ [.ref (gB G 91)])) v L (gI (WF v a' 0 x))) (h2 : ∀ v L, IM v a → CC G M8 (.ref (gB G 83) :: xs) v L (gI (PMo v L a' x))) : OB G ML M8 hh xs a :=
  ⟨0, x, a', by decide, wa, h1, fun v L h => cc_mono (h2 v L h) (fun r v' L' ⟨y, e0, e1, e2, e3, e4, e5⟩ => ⟨y, e0, e2, e3, e4, e5, fun _ => e1⟩)⟩
theorem obx {G : GT} {ML M8 : MD} {hh : HH} {xs : List Value} {a : AS} {k : Nat} (wa : WA a) (hk : 0 < k ∧ k < 9) (h1 : ∀ v L, IC v a → CH G ML hh (.ref (gB G 0) :: (xs ++ [.ref (gB G 91)])) v L (gI (WF v a k 0))) (h2 : ∀ v L, IM v a → CC G M8 (.ref (gB G 83) :: xs) v L (gI (PMt v L a k))) : OB G ML M8 hh xs a :=
  ⟨k, 0, a, hk.2, wa, h1, fun v L h => cc_mono (h2 v L h) (fun r v' L' ⟨y, e0, e2, e3, e4, e5⟩ => ⟨y, e0, e2, e3, e4, e5, fun z => absurd z (Nat.ne_of_gt hk.1)⟩)⟩
theorem k1_9 : 0 < 1 ∧ 1 < 9 := by decide
theorem k2_9 : 0 < 2 ∧ 2 < 9 := by decide
theorem k3_9 : 0 < 3 ∧ 3 < 9 := by decide
theorem WB_clear {B : Nat → Nat} (w : WB B) (p : Nat) : WB (upN B (13 + 6 * p) 0) := by
  intro q hq
  obtain ⟨h1, h2, h3⟩ := w q hq
  have e1 : upN B (13 + 6 * p) 0 (12 + 6 * q) = B (12 + 6 * q) := by unfold upN; rw [if_neg (by omega)]
  have e3 : ∀ i, i < 4 → upN B (13 + 6 * p) 0 (14 + 6 * q + i) = B (14 + 6 * q + i) := fun i hi => by unfold upN; rw [if_neg (by omega)]
  rw [e1]
  by_cases e : q = p
  · subst e
    have e2 : upN B (13 + 6 * q) 0 (13 + 6 * q) = 0 := by unfold upN; rw [if_pos rfl]
    rw [e2]
    exact ⟨h1, Nat.zero_le 4, fun i hi => absurd hi (Nat.not_lt_zero i)⟩
  · have e2 : upN B (13 + 6 * p) 0 (13 + 6 * q) = B (13 + 6 * q) := by unfold upN; rw [if_neg (by omega)]
    rw [e2]
    exact ⟨h1, h2, fun i hi => by rw [e3 i (by omega)]; exact h3 i hi⟩
theorem upN_lo {B : Nat → Nat} {k x j : Nat} (h : j < k) : upN B k x j = B j := by unfold upN; rw [if_neg (by omega)]
theorem o_addMove {G : GT} (g : GH G) {a : AS} (w : WA a) (y1 y2 : Int32) : OB G ML_addMove MX8_addMove [(0, 10, 13, 13), (0, 10, 17, 15), (0, 10, 21, 17)] [.int y1, .int y2] a := by
  rcases in_or y1 7 (by decide) with h | ⟨p, hp, rfl⟩
  · exact obx w k1_9 (fun v L i => w_addMove1 g (x7_addMove1 g h (PX.rf i))) (fun v L i => t8_addMove1 g i (Or.inl h))
  rcases in_or y2 7 (by decide) with h | ⟨q, hq, rfl⟩
  · exact obx w k1_9 (fun v L i => w_addMove1 g (x7_addMove2 g (by omega) h (PX.rf i))) (fun v L i => t8_addMove1 g i (Or.inr h))
  by_cases e : p = q
  · subst e
    exact obx w k2_9 (fun v L i => w_addMove2 g (x7_addMove3 g (by omega) (PX.rf i))) (fun v L i => t8_addMove2 g i (by omega))
  by_cases hh : hm (sS a) p (nI q) = true ∨ 4 ≤ sS a (13 + 6 * p)
  · exact obx w k3_9 (fun v L i => w_addMove3 g (x7_addMove4 g i w (by omega) (by omega) e hh (PX.rf i))) (fun v L i => t8_addMove3 g i w (by omega) (by omega) e hh)
  · have h1 : hm (sS a) p (nI q) = false := Bool.eq_false_iff.mpr (fun z => hh (Or.inl z))
    have h2 : sS a (13 + 6 * p) < 4 := Nat.not_le.mp (fun z => hh (Or.inr z))
    exact ob0 (w.sv.st (w.1.board (WB_addM w.1.b (by omega) (by omega) h2) (fun j hj => addM_lo _ _ _ hj))) (fun v L i => w_addMove0 g (m7_addMove g i w (by omega) (by omega) e h1 h2)) (fun v L i => m8_addMove g i w (by omega) (by omega) e h1 h2)
theorem o_clearMoves {G : GT} (g : GH G) {a : AS} (w : WA a) (y1 : Int32) : OB G ML_clearMoves MX8_clearMoves [(0, 9, 12, 13)] [.int y1] a := by
  rcases in_or y1 7 (by decide) with h | ⟨p, hp, rfl⟩
  · exact obx w k1_9 (fun v L i => w_clearMoves1 g (x7_clearMoves g h (PX.rf i))) (fun v L i => t8_clearMoves g i h)
  · exact ob0 (w.sv.st (w.1.board (WB_clear w.1.b p) (fun j hj => upN_lo (by omega)))) (fun v L i => w_clearMoves0 g (m7_clearMoves g i w (by omega))) (fun v L i => m8_clearMoves g i w (by omega))
theorem o_mark {G : GT} (g : GH G) {a : AS} (w : WA a) (y1 y2 : Int32) : OB G ML_mark MX8_mark [(0, 10, 13, 13), (0, 10, 17, 15)] [.int y1, .int y2] a := by
  rcases in_or y1 7 (by decide) with h | ⟨p, hp, rfl⟩
  · exact obx w k1_9 (fun v L i => w_mark1 g (x7_mark1 g h (PX.rf i))) (fun v L i => t8_mark1 g i h)
  rcases in_or y2 2 (by decide) with h | ⟨q, hq, rfl⟩
  · exact obx w k2_9 (fun v L i => w_mark2 g (x7_mark2 g (by omega) h (PX.rf i))) (fun v L i => t8_mark2 g i (by omega) h)
  · exact ob0 (w.sv.st (w.1.board (WB_mark w.1.b hq) (fun j hj => upN_lo (by omega)))) (fun v L i => w_mark0 g (m7_mark g i w (by omega) hq)) (fun v L i => m8_mark g i w (by omega) hq)
theorem o_set {G : GT} (g : GH G) {a : AS} (w : WA a) (y1 y2 : Int32) : OB G ML_set MX8_set [(0, 10, 13, 13), (0, 10, 17, 15)] [.int y1, .int y2] a := by
  rcases in_or y1 1 (by decide) with h | ⟨p, hp, rfl⟩
  · exact obx w k1_9 (fun v L i => w_set1 g (x7_set1 g h (PX.rf i))) (fun v L i => t8_set1 g i h)
  rcases in_or y2 (if p = 0 then 20 else 12) (by split <;> decide) with h | ⟨q, hq, rfl⟩
  · exact obx w k2_9 (fun v L i => w_set2 g (x7_set2 g hp h (PX.rf i))) (fun v L i => t8_set2 g i hp h)
  · exact ob0 (w.sv.st (w.1.set hq)) (fun v L i => w_set0 g (m7_set g i w hp hq)) (fun v L i => m8_set g i w hp hq)
theorem o_place {G : GT} (g : GH G) {a : AS} (w : WA a) (y1 y2 y3 : Int32) : OB G ML_place MX8_place [(0, 12, 15, 13), (0, 12, 19, 15)] [.int y1, .int y2, .int y3] a := by
  have w0 : sS a 0 ≤ 20 := w.1.1
  rcases in_or y1 7 (by decide) with h | ⟨p, hp, rfl⟩
  · exact obx w k1_9 (fun v L i => w_place1 g (x7_place1 g h (PX.rf i))) (fun v L i => t8_place1 g i h)
  rcases in_or y2 (sS a 0) (by omega) with h | ⟨q, hq, rfl⟩
  · exact obx w k2_9 (fun v L i => w_place2 g (x7_place2 g i w (by omega) h (PX.rf i))) (fun v L i => t8_place2 g i (by omega) (Or.inl h))
  rcases in_or y3 1 (by decide) with h | ⟨r, hr, rfl⟩
  · exact obx w k2_9 (fun v L i => w_place2 g (x7_place3 g i w (by omega) hq h (PX.rf i))) (fun v L i => t8_place2 g i (by omega) (Or.inr h))
  · exact ob0 (w.sv.st (w.1.place (by omega) hq hr)) (fun v L i => w_place0 g (m7_place g i w (by omega) hq hr)) (fun v L i => m8_place g i w (by omega) hq hr)
theorem o_append {G : GT} (g : GH G) {a : AS} (w : WA a) (y1 : Int32) : OB G ML_append MX8_append [(0, 9, 12, 15), (0, 9, 15, 17)] [.int y1] a := by
  have wl : sL a ≤ 60 := w.2.2.2.2.1
  rcases code_or y1 with h | ⟨c, h1, h2, rfl⟩
  · exact obx w k1_9 (fun v L i => w_append1 g (x7_append1 g h (PX.rf i))) (fun v L i => t8_append1 g i h)
  by_cases hl : sL a = 60
  · exact obx w k2_9 (fun v L i => w_append2 g (x7_append2 g i h1 h2 hl (PX.rf i))) (fun v L i => t8_append2 g i h1 h2 hl)
  · exact ob0 (w.tx h1 h2 (by omega)) (fun v L i => w_append0 g (m7_append g i h1 h2 (by omega))) (fun v L i => m8_append g i h1 h2 (by omega))
theorem o_load {G : GT} (g : GH G) {a : AS} (w : WA a) : OB G ML_load MX8_load [(0, 8, 11, 15)] [] a := by
  by_cases h : ∃ σ, okL a σ
  · obtain ⟨σ, hk⟩ := h
    exact ob0 (WA.cl (w.sv.st (w.1.ld (au_W hk.1).1.2.2.2))) (fun v L i => w_load0 g (m7_load g i w hk)) (fun v L i => m8_load g i w hk)
  · have hk : ∀ σ, ¬ okL a σ := fun σ z => h ⟨σ, z⟩
    exact obx w k1_9 (fun v L i => w_load1 g (x7_load g i w hk)) (fun v L i => t8_load g i w hk)
theorem o_keep {G : GT} (g : GH G) {a : AS} (w : WA a) (y1 : Int32) : OB G ML_keep MX8_keep [(0, 9, 12, 15)] [.int y1] a := by
  rcases in_or y1 1 (by decide) with h | ⟨p, hp, rfl⟩
  · exact obx w k1_9 (fun v L i => w_keep1 g (x7_keep g h (PX.rf i))) (fun v L i => t8_keep g i h)
  · exact ob0 (w.kp p) (fun v L i => w_keep0 g (m7_keep g i w hp)) (fun v L i => m8_keep g i w hp)
theorem o_goBack {G : GT} (g : GH G) {a : AS} (w : WA a) (y1 : Int32) : OB G ML_goBack MX8_goBack [(0, 9, 12, 15), (0, 9, 15, 17)] [.int y1] a := by
  rcases in_or y1 1 (by decide) with h | ⟨p, hp, rfl⟩
  · exact obx w k1_9 (fun v L i => w_goBack1 g (x7_goBack1 g h (PX.rf i))) (fun v L i => t8_goBack1 g i h)
  cases hk : sKp a p with
  | false => exact obx w k2_9 (fun v L i => w_goBack2 g (x7_goBack2 g i hp hk (PX.rf i))) (fun v L i => t8_goBack2 g i hp hk)
  | true => exact ob0 (w.sv.st (w.2.2.2.1 p (by omega) hk)) (fun v L i => w_goBack0 g (m7_goBack g i w hp hk)) (fun v L i => m8_goBack g i w hp hk)
theorem o_undo {G : GT} (g : GH G) {a : AS} (w : WA a) : OB G ML_undo MX8_undo [(0, 8, 11, 17)] [] a := by
  by_cases hn : sN a = 0
  · exact obx w k1_9 (fun v L i => w_undo1 g (x7_undo g i hn (PX.rf i))) (fun v L i => t8_undo g i hn)
  · exact ob0 (w.un (by omega)) (fun v L i => w_undo0 g (m7_undo g i w (by omega))) (fun v L i => m8_undo g i w (by omega))
theorem o_positionOf {G : GT} (g : GH G) {a : AS} (w : WA a) (y1 y2 : Int32) : OB G ML_positionOf MX8_positionOf [(0, 10, 13, 13), (0, 10, 17, 15)] [.int y1, .int y2] a := by
  rcases in_or y1 7 (by decide) with h | ⟨p, hp, rfl⟩
  · exact obx w k1_9 (fun v L i => w_positionOf1 g (x7_positionOf1 g h (PX.rf i))) (fun v L i => t8_positionOf1 g i h)
  rcases in_or y2 6 (by decide) with h | ⟨q, hq, rfl⟩
  · exact obx w k2_9 (fun v L i => w_positionOf2 g (x7_positionOf2 g (by omega) h (PX.rf i))) (fun v L i => t8_positionOf2 g i (by omega) h)
  · exact ob0 w (fun v L i => w_positionOf0 g (m7_positionOf g i w (by omega) hq)) (fun v L i => m8_positionOf g i w (by omega) hq)
theorem o_playerOf {G : GT} (g : GH G) {a : AS} (w : WA a) (y1 y2 : Int32) : OB G ML_playerOf MX8_playerOf [(0, 10, 13, 13), (0, 10, 17, 15)] [.int y1, .int y2] a := by
  rcases in_or y1 1 (by decide) with h | ⟨p, hp, rfl⟩
  · exact obx w k1_9 (fun v L i => w_playerOf1 g (x7_playerOf1 g h (PX.rf i))) (fun v L i => t8_playerOf1 g i h)
  rcases in_or y2 5 (by decide) with h | ⟨q, hq, rfl⟩
  · exact obx w k2_9 (fun v L i => w_playerOf2 g (x7_playerOf2 g hp h (PX.rf i))) (fun v L i => t8_playerOf2 g i w hp h)
  · exact ob0 w (fun v L i => w_playerOf0 g (m7_playerOf g i w hp hq)) (fun v L i => m8_playerOf g i w hp hq)
theorem o_count {G : GT} (g : GH G) {a : AS} (w : WA a) (y1 : Int32) : OB G ML_count MX8_count [(0, 9, 12, 15)] [.int y1] a := by
  rcases in_or y1 10 (by decide) with h | ⟨p, hp, rfl⟩
  · exact obx w k1_9 (fun v L i => w_count1 g (x7_count g h (PX.rf i))) (fun v L i => t8_count g i h)
  · exact ob0 w (fun v L i => w_count0 g (m7_count g i w hp)) (fun v L i => m8_count g i w hp)
theorem o_setting {G : GT} (g : GH G) {a : AS} (w : WA a) (y1 : Int32) : OB G ML_setting MX8_setting [(0, 9, 12, 13)] [.int y1] a := by
  rcases in_or y1 1 (by decide) with h | ⟨p, hp, rfl⟩
  · exact obx w k1_9 (fun v L i => w_setting1 g (x7_setting g h (PX.rf i))) (fun v L i => t8_setting g i h)
  · exact ob0 w (fun v L i => w_setting0 g (m7_setting g i hp)) (fun v L i => m8_setting g i hp)
theorem o_force {G : GT} (g : GH G) {a : AS} (w : WA a) (y1 y2 y3 y4 y5 : Int32) : OB G ML_force MX8_force [(0, 16, 19, 13), (0, 16, 23, 15)] [.int y1, .int y2, .int y3, .int y4, .int y5] a := by
  have w0 : sS a 0 ≤ 20 := w.1.1
  rcases in_or y1 1 (by decide) with h | ⟨n1, h1, rfl⟩
  · exact obx w k1_9 (fun v L i => w_force1 g (x7_force1 g h (PX.rf i))) (fun v L i => t8_force1 g i (Or.inl h))
  rcases in_or y2 7 (by decide) with h | ⟨n2, h2, rfl⟩
  · exact obx w k1_9 (fun v L i => w_force1 g (x7_force2 g h1 h (PX.rf i))) (fun v L i => t8_force1 g i (Or.inr h))
  rcases in_or y3 (sS a 0) (by omega) with h | ⟨n3, h3, rfl⟩
  · exact obx w k2_9 (fun v L i => w_force2 g (x7_force3 g i w h1 (by omega) h (PX.rf i))) (fun v L i => t8_force2 g i h1 (by omega) (Or.inl h))
  rcases in_or y4 1 (by decide) with h | ⟨n4, h4, rfl⟩
  · exact obx w k2_9 (fun v L i => w_force2 g (x7_force4 g i w h1 (by omega) h3 h (PX.rf i))) (fun v L i => t8_force2 g i h1 (by omega) (Or.inr (Or.inl h)))
  rcases in_or y5 12 (by decide) with h | ⟨n5, h5, rfl⟩
  · exact obx w k2_9 (fun v L i => w_force2 g (x7_force5 g i w h1 (by omega) h3 h4 h (PX.rf i))) (fun v L i => t8_force2 g i h1 (by omega) (Or.inr (Or.inr h)))
  · exact ob0 w (fun v L i => w_force0 g (m7_force g i w h1 (by omega) h3 h4 h5)) (fun v L i => m8_force g i w h1 (by omega) h3 h4 h5)
theorem o_threshold {G : GT} (g : GH G) {a : AS} (w : WA a) (y1 y2 y3 y4 : Int32) : OB G ML_threshold MX8_threshold [(0, 14, 17, 13), (0, 14, 21, 15)] [.int y1, .int y2, .int y3, .int y4] a := by
  rcases in_or y1 1 (by decide) with h | ⟨n1, h1, rfl⟩
  · exact obx w k1_9 (fun v L i => w_threshold1 g (x7_threshold1 g h (PX.rf i))) (fun v L i => t8_threshold1 g i (Or.inl h))
  rcases in_or y2 7 (by decide) with h | ⟨n2, h2, rfl⟩
  · exact obx w k1_9 (fun v L i => w_threshold1 g (x7_threshold2 g h1 h (PX.rf i))) (fun v L i => t8_threshold1 g i (Or.inr h))
  rcases in_or y3 1 (by decide) with h | ⟨n3, h3, rfl⟩
  · exact obx w k2_9 (fun v L i => w_threshold2 g (x7_threshold3 g h1 (by omega) h (PX.rf i))) (fun v L i => t8_threshold2 g i h1 (by omega) (Or.inl h))
  rcases in_or y4 1 (by decide) with h | ⟨n4, h4, rfl⟩
  · exact obx w k2_9 (fun v L i => w_threshold2 g (x7_threshold4 g h1 (by omega) h3 h (PX.rf i))) (fun v L i => t8_threshold2 g i h1 (by omega) (Or.inr h))
  · exact ob0 w (fun v L i => w_threshold0 g (m7_threshold g i w h1 (by omega) h3 h4)) (fun v L i => m8_threshold g i w h1 (by omega) h3 h4)
theorem o_advice {G : GT} (g : GH G) {a : AS} (w : WA a) (y1 : Int32) : OB G ML_advice MX8_advice [(0, 9, 12, 13)] [.int y1] a := by
  rcases in_or y1 1 (by decide) with h | ⟨p, hp, rfl⟩
  · exact obx w k1_9 (fun v L i => w_advice1 g (x7_advice1 g h (PX.rf i))) (fun v L i => t8_advice g i h)
  · exact ob0 w (fun v L i => w_advice0 g (m7_advice g i w hp)) (fun v L i => m8_advice g i w hp)
theorem o_refuted {G : GT} (g : GH G) {a : AS} (w : WA a) (y1 y2 : Int32) : OB G ML_refuted MX8_refuted [(0, 10, 13, 13), (0, 10, 17, 15)] [.int y1, .int y2] a := by
  rcases in_or y1 1 (by decide) with h | ⟨p, hp, rfl⟩
  · exact obx w k1_9 (fun v L i => w_refuted1 g (x7_refuted1 g h (PX.rf i))) (fun v L i => t8_refuted1 g i h)
  have hb : bud (sS a) p ≤ 20 := by
    have w0 : sS a 0 ≤ 20 := w.1.1
    have w2 : sS a 2 ≤ sS a 0 := w.1.2.2.1
    unfold bud
    split <;> omega
  rcases in_or y2 (bud (sS a) p) (by omega) with h | ⟨q, hq, rfl⟩
  · exact obx w k2_9 (fun v L i => w_refuted2 g (x7_refuted2 g i w hp h (PX.rf i))) (fun v L i => t8_refuted2 g i w hp h)
  · exact ob0 w (fun v L i => w_refuted0 g (m7_refuted g i w hp hq)) (fun v L i => m8_refuted g i w hp hq)
theorem o_bestMove {G : GT} (g : GH G) {a : AS} (w : WA a) (y1 y2 : Int32) : OB G ML_bestMove MX8_bestMove [(0, 10, 13, 13), (0, 10, 17, 15)] [.int y1, .int y2] a := by
  rcases in_or y1 1 (by decide) with h | ⟨p, hp, rfl⟩
  · exact obx w k1_9 (fun v L i => w_bestMove1 g (x7_bestMove1 g h (PX.rf i))) (fun v L i => t8_bestMove1 g i h)
  have hb : bud (sS a) p ≤ 20 := by
    have w0 : sS a 0 ≤ 20 := w.1.1
    have w2 : sS a 2 ≤ sS a 0 := w.1.2.2.1
    unfold bud
    split <;> omega
  rcases in_or y2 (bud (sS a) p) (by omega) with h | ⟨q, hq, rfl⟩
  · exact obx w k2_9 (fun v L i => w_bestMove2 g (x7_bestMove2 g i w hp h (PX.rf i))) (fun v L i => t8_bestMove2 g i w hp h)
  · exact ob0 w (fun v L i => w_bestMove0 g (m7_bestMove g i w hp hq)) (fun v L i => m8_bestMove g i w hp hq)
theorem o_winIn {G : GT} (g : GH G) {a : AS} (w : WA a) (y1 : Int32) : OB G ML_winIn MX8_winIn [(0, 9, 12, 13)] [.int y1] a := by
  rcases in_or y1 1 (by decide) with h | ⟨p, hp, rfl⟩
  · exact obx w k1_9 (fun v L i => w_winIn1 g (x7_winIn1 g h (PX.rf i))) (fun v L i => t8_winIn g i h)
  · exact ob0 w (fun v L i => w_winIn0 g (m7_winIn g i w hp)) (fun v L i => m8_winIn g i w hp)
/-- a call without exceptions -/
def OQ (G : GT) (M7 M8 : MD) (xs : List Value) (a : AS) : Prop := ∃ (x : Int32) (a' : AS), WA a' ∧ (∀ v L, IC v a → CC G M7 (.ref (gB G 0) :: xs) v L (gI (PC v L a' x))) ∧ ∀ v L, IM v a → CC G M8 (.ref (gB G 83) :: xs) v L (gI (PMo v L a' x))
theorem o_reverse {G : GT} (g : GH G) {a : AS} (w : WA a) : OQ G MX7_reverse MX8_reverse [] a := ⟨_, _, w.sv.st w.1.rev, fun v L i => m7_reverse g i w, fun v L i => m8_reverse g i w⟩
theorem o_clearBuffer {G : GT} (g : GH G) {a : AS} (w : WA a) : OQ G MX7_clearBuffer MX8_clearBuffer [] a := ⟨_, _, w.cl, fun v L i => m7_clearBuffer g i, fun v L i => m8_clearBuffer g i⟩
theorem o_firstError {G : GT} (g : GH G) {a : AS} (w : WA a) : OQ G MX7_firstError MX8_firstError [] a := ⟨_, _, w, fun v L i => m7_firstError g i w, fun v L i => m8_firstError g i w⟩
theorem o_bid {G : GT} (g : GH G) {a : AS} (w : WA a) (y1 y2 : Int32) : OQ G MX7_bid MX8_bid [.int y1, .int y2] a := by
  by_cases h : rbN (sS a) y1 y2 = 0
  · obtain ⟨b, o, hb, ho, rfl, rfl⟩ := rb_acc w.1 h
    exact ⟨_, _, w.sv.st (w.1.bid hb ho), fun v L i => m7_bidY g i w hb ho h, fun v L i => m8_bidY g i w hb ho h⟩
  · exact ⟨_, _, w.sv.st w.1.ref, fun v L i => m7_bidR g i w h, fun v L i => m8_bidR g i w h⟩
theorem o_move {G : GT} (g : GH G) {a : AS} (w : WA a) (y1 : Int32) : OQ G MX7_move MX8_move [.int y1] a := by
  by_cases h : rmN (sS a) y1 = 0
  · obtain ⟨q, hq, rfl⟩ := rm_acc w.1 h
    exact ⟨_, _, w.sv.st (w.1.mov hq), fun v L i => m7_moveY g i w hq h, fun v L i => m8_moveY g i w hq h⟩
  · exact ⟨_, _, w.sv.st w.1.ref, fun v L i => m7_moveR g i w h, fun v L i => m8_moveR g i w h⟩
