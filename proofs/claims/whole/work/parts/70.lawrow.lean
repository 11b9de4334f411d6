/-! rows of the law -/
section
variable {G : GT} {K : KT} {M : MD} {v : VV} {L : LL} {pc q : Nat} {lv : List (Option Value)} {st : List Value} {c s cells slots : Nat} {Q : State → Prop}
/-- the script: Ls ints xs at b -/
def SX (G : GT) (K : KT) (b Ls : Nat) (xs : Nat → Int32) : Prop := va_X b Ls xs (ks K) (ks K).heap ∧ b < (ks K).heap.size ∧ ¬ gA G b ∧ Ls ≤ 3072
theorem r_sld {b Ls i : Nat} {xs : Nat → Int32} (F : Fx G K M c s) (hX : SX G K b Ls xs) (d : DD (mb M) pc .iaload 1 q) (hi : i < Ls) (k : CW G K (ml M) cells slots Q v L q lv (.int (xs i) :: st)) : CW G K (ml M) cells slots Q v L pc lv (.int (nI i) :: .ref b :: st) := by
  intro H locs ls hP hS hl
  obtain ⟨d1, rfl⟩ := d
  have h1 : i < 2147483648 := Nat.lt_of_lt_of_le hi (Nat.le_trans hX.2.2.2 (by decide))
  have h2 : Ls < 2147483648 := Nat.lt_of_le_of_lt hX.2.2.2 (by decide)
  refine va_sld F.1 F.2.1 hX.1 hX.2.1 hX.2.2.1 hS (nI_in hi h2) d1 ?_
  rw [nI_clamp h1]
  exact k H locs ls hP hS hl
theorem r_slen {b Ls : Nat} {xs : Nat → Int32} (F : Fx G K M c s) (hX : SX G K b Ls xs) (d : DD (mb M) pc .arraylength 1 q) (k : CW G K (ml M) cells slots Q v L q lv (.int (nI Ls) :: st)) : CW G K (ml M) cells slots Q v L pc lv (.ref b :: st) := by
  intro H locs ls hP hS hl
  obtain ⟨d1, rfl⟩ := d
  exact va_slen F.1 F.2.1 hX.1 hX.2.1 hX.2.2.1 hS d1 (k H locs ls hP hS hl)
end
theorem lg_self (x : Int64) : lg_cmp x x = 0 := by
  unfold lg_cmp
  rw [if_neg (Int64.lt_irrefl), if_pos rfl]
theorem zlo {a b A B : Nat} (z : a + 1 ≤ A ∧ b + 6 ≤ B) : a ≤ A ∧ b ≤ B := ⟨by omega, by omega⟩
theorem IM.ofC {v v1 : VV} {a : AS} (h : IM v a) (f : FrC v v1) : IM v1 a := h.kept (fun k h1 h2 => f k (by omega)) (by rw [f 83 (by decide)]) (by rw [f 83 (by decide)])
theorem IC.ofM {v v1 : VV} {a : AS} (h : IC v a) (f : FrM v v1) : IC v1 a := h.kept (fun k hk => f k (Or.inl hk))
/-- the law's locals, at the loop's head -/
abbrev lwv (G : GT) (b i : Nat) : List (Option Value) := [some (.ref b), some (.ref (gB G 0)), some (.ref (gB G 83)), some (.ref (gB G 91)), some (.int (nI i)), none, none, none, none]
/-- on goes the loop -/
def KK (G : GT) (K : KT) (b i cells slots : Nat) (Q : State → Prop) : Prop := ∀ (v : VV) (L : LL) (a : AS), IC v a → IM v a → WA a → CW G K 9 cells slots Q v L 1608 (lwv G b i) []
