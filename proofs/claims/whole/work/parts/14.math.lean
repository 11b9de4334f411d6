/-- the first place below n where p holds, n if there is none -/
def fsN (p : Nat → Bool) : Nat → Nat
  | 0 => 0
  | n + 1 => if fsN p n < n then fsN p n else if p n then n else n + 1
theorem fsN_le (p : Nat → Bool) : ∀ n, fsN p n ≤ n
  | 0 => Nat.le_refl 0
  | n + 1 => by
    have h := fsN_le p n
    rw [fsN]
    split
    · omega
    · split <;> omega
theorem fsN_no (p : Nat → Bool) : ∀ n k, k < fsN p n → p k = false
  | 0, k, h => absurd h (Nat.not_lt_zero k)
  | n + 1, k, h => by
    have ih := fsN_no p n k
    have hl := fsN_le p n
    rw [fsN] at h
    split at h
    · exact ih h
    · rename_i h1
      split at h
      · exact ih (by omega)
      · rename_i h2
        rcases Nat.lt_or_ge k n with z | z
        · exact ih (by omega)
        · rw [show k = n by omega]; exact Bool.eq_false_iff.mpr h2
theorem fsN_yes (p : Nat → Bool) : ∀ n, fsN p n < n → p (fsN p n) = true
  | 0, h => absurd h (Nat.not_lt_zero _)
  | n + 1, h => by
    have ih := fsN_yes p n
    rw [fsN] at h ⊢
    split
    · rename_i h1; exact ih h1
    · rename_i h1
      rw [if_neg h1] at h
      split
      · rename_i h2; exact h2
      · rename_i h2; rw [if_neg h2] at h; omega
theorem fsN_eq {p : Nat → Bool} {n k : Nat} (h : k < n) (hk : p k = true) (ho : ∀ j, j < k → p j = false) : fsN p n = k := by
  rcases Nat.lt_trichotomy (fsN p n) k with z | z | z
  · have := fsN_yes p n (by omega)
    rw [ho _ z] at this
    cases this
  · exact z
  · rw [fsN_no p n k z] at hk
    cases hk
theorem fsN_none {p : Nat → Bool} {n : Nat} (h : ∀ j, j < n → p j = false) : fsN p n = n := by
  have hl := fsN_le p n
  rcases Nat.lt_or_ge (fsN p n) n with z | z
  · have := fsN_yes p n z
    rw [h _ z] at this
    cases this
  · omega
theorem fsN_cong {p q : Nat → Bool} : ∀ {n : Nat}, (∀ j, j < n → p j = q j) → fsN p n = fsN q n
  | 0, _ => rfl
  | n + 1, h => by rw [fsN, fsN, fsN_cong (fun i hi => h i (by omega)), h n (by omega)]
/-! a turn: so and ea tell by the holder of the star what some move, what each move, asks behind it -/
def isE (so ea : Nat → Nat) (pl st b bid other : Nat) : Bool :=
  if other < bid then decide (so st ≤ b - bid) else if bid < other then decide (ea st ≤ b + other) else if st = pl then decide (so (1 - pl) ≤ b - bid) else decide (ea pl ≤ b + bid)
def winB (so ea : Nat → Nat) (c pl st b bid : Nat) : Bool :=
  (decide (bid = 0) || isE so ea pl st b bid 0) && (decide (c - b < bid) || isE so ea pl st b bid bid) && (decide (c - b ≤ bid) || isE so ea pl st b bid (bid + 1))
theorem isE_mono {so ea : Nat → Nat} {pl st b b' bid other : Nat} (h : b ≤ b') (e : isE so ea pl st b bid other = true) : isE so ea pl st b' bid other = true := by
  unfold isE at *
  split at e <;> rename_i h1
  · rw [if_pos h1]; simp at *; omega
  · rw [if_neg h1]
    split at e <;> rename_i h2
    · rw [if_pos h2]; simp at *; omega
    · rw [if_neg h2]
      split at e <;> rename_i h3
      · rw [if_pos h3]; simp at *; omega
      · rw [if_neg h3]; simp at *; omega
theorem win_all {so ea : Nat → Nat} {c pl st b bid : Nat} (hb : b ≤ c) : winB so ea c pl st b bid = true ↔ ∀ other, other ≤ c - b → isE so ea pl st b bid other = true := by
  unfold winB
  simp only [Bool.and_eq_true, Bool.or_eq_true, decide_eq_true_eq]
  constructor
  · intro ⟨⟨h1, h2⟩, h3⟩ other ho
    rcases Nat.lt_trichotomy other bid with z | z | z
    · rcases h1 with h1 | h1
      · omega
      · unfold isE at h1 ⊢
        rw [if_pos (by omega)] at h1
        rw [if_pos z]
        exact h1
    · subst z
      rcases h2 with h2 | h2
      · omega
      · exact h2
    · rcases h3 with h3 | h3
      · omega
      · unfold isE at h3 ⊢
        rw [if_neg (by omega), if_pos (by omega)] at h3
        rw [if_neg (by omega), if_pos z]
        simp at *
        omega
  · intro h
    refine ⟨⟨?_, ?_⟩, ?_⟩
    · exact Or.inr (h 0 (Nat.zero_le _))
    · rcases Nat.lt_or_ge (c - b) bid with z | z
      · exact Or.inl z
      · exact Or.inr (h bid z)
    · rcases Nat.lt_or_ge bid (c - b) with z | z
      · exact Or.inr (h (bid + 1) z)
      · exact Or.inl z
theorem win_mono {so ea : Nat → Nat} {c pl st b b' bid : Nat} (h : b ≤ b') (hb : b' ≤ c) (e : winB so ea c pl st b bid = true) : winB so ea c pl st b' bid = true := by
  rw [win_all hb]
  rw [win_all (Nat.le_trans h hb)] at e
  exact fun o ho => isE_mono h (e o (by omega))
/-- the least bid that wins, b + 1 if there is none -/
def lbid (so ea : Nat → Nat) (c pl st b : Nat) : Nat := fsN (fun bid => winB so ea c pl st b bid) (b + 1)
/-- the least budget, 99 if there is none -/
def lbud (so ea : Nat → Nat) (c pl st : Nat) : Nat := if fsN (fun b => decide (lbid so ea c pl st b ≤ b)) (c + 1) ≤ c then fsN (fun b => decide (lbid so ea c pl st b ≤ b)) (c + 1) else 99
theorem lbid_mono {so ea : Nat → Nat} {c pl st b b' : Nat} (h : b ≤ b') (hb : b' ≤ c) (e : lbid so ea c pl st b ≤ b) : lbid so ea c pl st b' ≤ b' := by
  have h1 := fsN_yes (fun bid => winB so ea c pl st b bid) (b + 1) (by unfold lbid at e; omega)
  have h2 := win_mono h hb h1
  rcases Nat.lt_or_ge b' (lbid so ea c pl st b') with z | z
  · have h3 := fsN_no (fun bid => winB so ea c pl st b' bid) (b' + 1) (lbid so ea c pl st b) (by unfold lbid at *; omega)
    rw [show lbid so ea c pl st b = fsN (fun bid => winB so ea c pl st b bid) (b + 1) from rfl] at h3
    rw [h3] at h2
    cases h2
  · exact z
/-- a budget wins just above the threshold -/
theorem lbud_iff {so ea : Nat → Nat} {c pl st b : Nat} (hb : b ≤ c) (hc : c ≤ 20) : lbid so ea c pl st b ≤ b ↔ lbud so ea c pl st ≤ b := by
  unfold lbud
  constructor
  · intro h
    rcases Nat.lt_or_ge b (fsN (fun b => decide (lbid so ea c pl st b ≤ b)) (c + 1)) with z | z
    · have := fsN_no _ (c + 1) b z
      simp at this
      omega
    · rw [if_pos (by omega)]; exact z
  · intro h
    split at h <;> rename_i h1
    · have := fsN_yes (fun b => decide (lbid so ea c pl st b ≤ b)) (c + 1) (by omega)
      exact lbid_mono h hb (by simpa using this)
    · omega
def okT (x : Nat) : Prop := x ≤ 20 ∨ x = 99
theorem lbud_ok {so ea : Nat → Nat} {c pl st : Nat} (hc : c ≤ 20) : okT (lbud so ea c pl st) := by
  unfold lbud okT
  split <;> omega
def eaz (f : Nat → Nat) (S : Nat → Nat) (p : Nat) : Nat → Nat
  | 0 => 99
  | i + 1 => if f (S (14 + 6 * p + i)) < eaz f S p i then f (S (14 + 6 * p + i)) else eaz f S p i
def haz (f : Nat → Nat) (S : Nat → Nat) (p : Nat) : Nat → Nat
  | 0 => 0
  | i + 1 => if haz f S p i < f (S (14 + 6 * p + i)) then f (S (14 + 6 * p + i)) else haz f S p i
theorem eaz_ok {f : Nat → Nat} {S : Nat → Nat} {p : Nat} : ∀ {n : Nat}, (∀ i, i < n → okT (f (S (14 + 6 * p + i)))) → okT (eaz f S p n)
  | 0, _ => Or.inr rfl
  | n + 1, h => by
    rw [eaz]
    split
    · exact h n (by omega)
    · exact eaz_ok (fun i hi => h i (by omega))
theorem haz_ok {f : Nat → Nat} {S : Nat → Nat} {p : Nat} : ∀ {n : Nat}, (∀ i, i < n → okT (f (S (14 + 6 * p + i)))) → okT (haz f S p n)
  | 0, _ => Or.inl (Nat.zero_le _)
  | n + 1, h => by
    rw [haz]
    split
    · exact h n (by omega)
    · exact haz_ok (fun i hi => h i (by omega))
/-- the threshold, 99 if there is none -/
def thr (S : Nat → Nat) : Nat → Nat → Nat → Nat → Nat
  | 0, pl, p, _ => if won S pl p then 0 else 99
  | t + 1, pl, p, st => if won S pl p then 0 else if ovr S p then 99 else lbud (fun σ => eaz (fun q => thr S t pl q σ) S p (S (13 + 6 * p))) (fun σ => haz (fun q => thr S t pl q σ) S p (S (13 + 6 * p))) (S 0) pl st
/-- behind a turn, by the holder of the star -/
def soT (S : Nat → Nat) (t pl p : Nat) : Nat → Nat := fun σ => eaz (fun q => thr S t pl q σ) S p (S (13 + 6 * p))
def eaT (S : Nat → Nat) (t pl p : Nat) : Nat → Nat := fun σ => haz (fun q => thr S t pl q σ) S p (S (13 + 6 * p))
theorem thr_ok {S : Nat → Nat} (hc : S 0 ≤ 20) : ∀ (t pl p st : Nat), okT (thr S t pl p st)
  | 0, pl, p, st => by
    unfold thr okT
    split <;> omega
  | t + 1, pl, p, st => by
    unfold thr
    split
    · exact Or.inl (Nat.zero_le _)
    · split
      · exact Or.inr rfl
      · exact lbud_ok hc
theorem soT_ok {S : Nat → Nat} (hc : S 0 ≤ 20) (t pl p σ : Nat) : okT (soT S t pl p σ) := eaz_ok (fun _ _ => thr_ok hc _ _ _ _)
theorem eaT_ok {S : Nat → Nat} (hc : S 0 ≤ 20) (t pl p σ : Nat) : okT (eaT S t pl p σ) := haz_ok (fun _ _ => thr_ok hc _ _ _ _)
theorem thr_s {S : Nat → Nat} (t pl p st : Nat) : thr S (t + 1) pl p st = if won S pl p then 0 else if ovr S p then 99 else lbud (soT S t pl p) (eaT S t pl p) (S 0) pl st := rfl
/-! two ways to hold a threshold: as bits of budgets, and as a number to 21 -/
def mk (x c : Nat) : Nat := if x ≤ c then 2 ^ (c + 1) - 2 ^ x else 0
def tq (x : Nat) : Nat := if x ≤ 20 then x else 21
theorem mk_tq {x c : Nat} (hc : c ≤ 20) : mk x c = mk (tq x) c := by
  by_cases h : x ≤ 20
  · rw [show tq x = x by unfold tq; rw [if_pos h]]
  · rw [show tq x = 21 by unfold tq; rw [if_neg h]]
    unfold mk
    rw [if_neg (by omega), if_neg (by omega)]
theorem tq_lt (x : Nat) : tq x < 22 := by unfold tq; split <;> omega
theorem tq_le {x y : Nat} (hy : y ≤ 20) : tq x ≤ y ↔ x ≤ y := by unfold tq; split <;> omega
theorem mk_lt {x c : Nat} (hc : c ≤ 20) : mk x c < 2097152 := by
  rw [mk_tq hc]
  exact (show ∀ x, x < 22 → ∀ c, c < 21 → mk x c < 2097152 by decide +kernel) _ (tq_lt x) c (by omega)
theorem mk_bit {x c y : Nat} (hc : c ≤ 20) (hy : y ≤ 20) : mk x c / 2 ^ y % 2 = if x ≤ y ∧ y ≤ c then 1 else 0 := by
  rw [mk_tq hc, (show ∀ x, x < 22 → ∀ c, c < 21 → ∀ y, y < 21 → mk x c / 2 ^ y % 2 = if x ≤ y ∧ y ≤ c then 1 else 0 by decide +kernel) _ (tq_lt x) c (by omega) y (by omega)]
  by_cases h : x ≤ y
  · have h2 := (tq_le (x := x) hy).mpr h
    simp [h, h2]
  · have h2 : ¬ tq x ≤ y := fun z => h ((tq_le hy).mp z)
    simp [h, h2]
theorem tq_min (x y : Nat) : tq (if y < x then y else x) = if tq y < tq x then tq y else tq x := by
  unfold tq; repeat' split
  all_goals omega
theorem tq_max (x y : Nat) : tq (if x < y then y else x) = if tq x < tq y then tq y else tq x := by
  unfold tq; repeat' split
  all_goals omega
theorem mk_or {x y c : Nat} (hc : c ≤ 20) : mk x c ||| mk y c = mk (if y < x then y else x) c := by
  rw [mk_tq hc, mk_tq (x := y) hc, mk_tq (x := if y < x then y else x) hc, tq_min]
  exact (show ∀ x, x < 22 → ∀ y, y < 22 → ∀ c, c < 21 → mk x c ||| mk y c = mk (if y < x then y else x) c by decide +kernel) _ (tq_lt x) _ (tq_lt y) c (by omega)
theorem mk_and {x y c : Nat} (hc : c ≤ 20) : mk x c &&& mk y c = mk (if x < y then y else x) c := by
  rw [mk_tq hc, mk_tq (x := y) hc, mk_tq (x := if x < y then y else x) hc, tq_max]
  exact (show ∀ x, x < 22 → ∀ y, y < 22 → ∀ c, c < 21 → mk x c &&& mk y c = mk (if x < y then y else x) c by decide +kernel) _ (tq_lt x) _ (tq_lt y) c (by omega)
/-- the bits of the budgets below i that win, r the first -/
def pmk (r i : Nat) : Nat := if i ≤ r then 0 else 2 ^ i - 2 ^ r
theorem pmk_yes {r i : Nat} (hi : i ≤ 20) (h : r ≤ i) : pmk r i ||| 2 ^ i = pmk r (i + 1) := (show ∀ i, i < 21 → ∀ r, r < 21 → r ≤ i → pmk r i ||| 2 ^ i = pmk r (i + 1) by decide +kernel) i (by omega) r (by omega) h
theorem pmk_no {r i : Nat} (h : i < r) : pmk r i = pmk r (i + 1) := by unfold pmk; rw [if_pos (by omega), if_pos (by omega)]
theorem pmk_lt {r i : Nat} (hi : i ≤ 21) : pmk r i < 2097153 := by
  unfold pmk
  split
  · omega
  · have h1 : 2 ^ i ≤ 2 ^ 21 := Nat.pow_le_pow_right (by decide) hi
    exact Nat.lt_of_le_of_lt (Nat.le_trans (Nat.sub_le _ _) h1) (by decide)
theorem nI_and (a b : Nat) : nI a &&& nI b = nI (a &&& b) := by
  apply Int32.toBitVec_inj.1
  show BitVec.ofNat 32 a &&& BitVec.ofNat 32 b = BitVec.ofNat 32 (a &&& b)
  apply BitVec.eq_of_getLsbD_eq
  intro i hi
  simp [hi]
theorem nI_or (a b : Nat) : nI a ||| nI b = nI (a ||| b) := by
  apply Int32.toBitVec_inj.1
  show BitVec.ofNat 32 a ||| BitVec.ofNat 32 b = BitVec.ofNat 32 (a ||| b)
  apply BitVec.eq_of_getLsbD_eq
  intro i hi
  simp [hi]
theorem nI_sh1 {k : Nat} (h : k < 31) : nI 1 <<< (nI k &&& 31) = nI (2 ^ k) := (show ∀ k, k < 31 → nI 1 <<< (nI k &&& 31) = nI (2 ^ k) by decide +kernel) k h
theorem nI_shr {n k : Nat} (hn : n < 2147483648) (h : k < 32) : nI n >>> (nI k &&& 31) = nI (n / 2 ^ k) := pk_shrN hn _ k ((show ∀ k, k < 32 → ((nI k &&& 31).toBitVec.smod 32).toNat = k by decide +kernel) k h)
theorem nI_one (n : Nat) : nI n &&& nI 1 = nI (n % 2) := by rw [nI_and, Nat.and_one_is_mod]
