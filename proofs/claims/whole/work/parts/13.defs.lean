/-- a board at b; a state at k; entries at e (kind c) -/
def isBd (b : Nat) : Prop := kd b = (0,0,0) ∧ kd (b + 1) = (8,8,0) ∧ kd (b + 2) = (8,8,0) ∧ kd (b + 3) = (8,32,0)
def isSt (k : Nat) : Prop := kd k = (4,0,0) ∧ kd (k + 1) = (0,0,0) ∧ kd (k + 2) = (8,8,0) ∧ kd (k + 3) = (8,8,0) ∧ kd (k + 4) = (8,32,0) ∧ kd (k + 5) = (8,2,0) ∧ kd (k + 6) = (8,2,0)
def isEn (e c : Nat) : Prop := kd e = (c,0,0) ∧ kd (e + 1) = (8,2,0) ∧ kd (e + 2) = (8,2,0) ∧ kd (e + 3) = (8,416,0)
theorem isSt.bd {k : Nat} (h : isSt k) : isBd (k + 1) := ⟨h.2.1, h.2.2.1, h.2.2.2.1, h.2.2.2.2.1⟩
theorem st1 : isSt 1 := ⟨rfl, rfl, rfl, rfl, rfl, rfl, rfl⟩
theorem bd2 : isBd 2 := ⟨rfl, rfl, rfl, rfl⟩
theorem bd70 : isBd 70 := ⟨rfl, rfl, rfl, rfl⟩
theorem en75 : isEn 75 2 := ⟨rfl, rfl, rfl, rfl⟩
theorem en79 : isEn 79 5 := ⟨rfl, rfl, rfl, rfl⟩
theorem st_of {i : Nat} (h : i < 9) : isSt (1 + 7 * i) := by
  have : i = 0 ∨ i = 1 ∨ i = 2 ∨ i = 3 ∨ i = 4 ∨ i = 5 ∨ i = 6 ∨ i = 7 ∨ i = 8 := by omega
  rcases this with rfl | rfl | rfl | rfl | rfl | rfl | rfl | rfl | rfl <;> exact ⟨rfl, rfl, rfl, rfl, rfl, rfl, rfl⟩
/-- the board at b is S's: marks, counts, the moves that count -/
def RB (b : Nat) (v : VV) (S : Nat → Nat) : Prop := ∀ p, p < 8 → v (b + 1) p = S (12 + 6 * p) ∧ v (b + 2) p = S (13 + 6 * p) ∧ ∀ i, i < S (13 + 6 * p) → v (b + 3) (p * 4 + i) = S (14 + 6 * p + i)
def WB (S : Nat → Nat) : Prop := ∀ p, p < 8 → S (12 + 6 * p) ≤ 2 ∧ S (13 + 6 * p) ≤ 4 ∧ ∀ i, i < S (13 + 6 * p) → S (14 + 6 * p + i) < 8
def anyB (f : Nat → Bool) : Nat → Bool
  | 0 => false
  | n + 1 => anyB f n || f n
theorem anyB_no {f : Nat → Bool} : ∀ {n : Nat}, (∀ i, i < n → f i = false) → anyB f n = false
  | 0, _ => rfl
  | n + 1, h => by rw [anyB, anyB_no (fun i hi => h i (by omega)), h n (by omega)]; rfl
theorem anyB_yes {f : Nat → Bool} : ∀ {n i : Nat}, i < n → f i = true → anyB f n = true
  | 0, i, h, _ => absurd h (Nat.not_lt_zero i)
  | n + 1, i, h, e => by
    rw [anyB]
    rcases Nat.lt_or_ge i n with z | z
    · rw [anyB_yes z e]; rfl
    · rw [show n = i by omega, e, Bool.or_true]
theorem anyB_cong {f g : Nat → Bool} : ∀ {n : Nat}, (∀ i, i < n → f i = g i) → anyB f n = anyB g n
  | 0, _ => rfl
  | n + 1, h => by rw [anyB, anyB, anyB_cong (fun i hi => h i (by omega)), h n (by omega)]
def cntB (f : Nat → Bool) : Nat → Nat
  | 0 => 0
  | n + 1 => cntB f n + (f n).toNat
theorem cntB_cong {f g : Nat → Bool} : ∀ {n : Nat}, (∀ i, i < n → f i = g i) → cntB f n = cntB g n
  | 0, _ => rfl
  | n + 1, h => by rw [cntB, cntB, cntB_cong (fun i hi => h i (by omega)), h n (by omega)]
theorem cntB_le (f : Nat → Bool) : ∀ n, cntB f n ≤ n
  | 0 => Nat.le_refl 0
  | n + 1 => by
    have h := cntB_le f n
    have h2 : (f n).toNat ≤ 1 := Bool.toNat_le _
    rw [cntB]; omega
def smN (f : Nat → Nat) : Nat → Nat
  | 0 => 0
  | n + 1 => smN f n + f n
theorem smN_cong {f g : Nat → Nat} : ∀ {n : Nat}, (∀ i, i < n → f i = g i) → smN f n = smN g n
  | 0, _ => rfl
  | n + 1, h => by rw [smN, smN, smN_cong (fun i hi => h i (by omega)), h n (by omega)]
theorem smN_le {f : Nat → Nat} {c : Nat} : ∀ {n : Nat}, (∀ i, i < n → f i ≤ c) → smN f n ≤ n * c
  | 0, _ => Nat.zero_le _
  | n + 1, h => by
    have h1 := smN_le (f := f) (c := c) (n := n) (fun i hi => h i (by omega))
    have h2 := h n (by omega)
    rw [smN, Nat.succ_mul]; omega
/-- has a move -/
def hm (S : Nat → Nat) (p : Nat) (to : Int32) : Bool := anyB (fun i => decide (nI (S (14 + 6 * p + i)) = to)) (S (13 + 6 * p))
/-- over: marked, or no moves -/
def ovr (S : Nat → Nat) (p : Nat) : Bool := decide (S (12 + 6 * p) ≠ 0) || decide (S (13 + 6 * p) = 0)
def won (S : Nat → Nat) (pl p : Nat) : Bool := decide (S (12 + 6 * p) = pl + 1)
/-- the move at a place, or -1 -/
def mvA (S : Nat → Nat) (p i : Nat) : Int32 := if i < S (13 + 6 * p) then nI (S (14 + 6 * p + i)) else -1
theorem RB.at {b : Nat} {v : VV} {S : Nat → Nat} (h : RB b v S) (w : WB S) {p : Nat} (hp : p < 8) : v (b + 1) p = S (12 + 6 * p) ∧ v (b + 2) p = S (13 + 6 * p) ∧ S (12 + 6 * p) ≤ 2 ∧ S (13 + 6 * p) ≤ 4 := ⟨(h p hp).1, (h p hp).2.1, (w p hp).1, (w p hp).2.1⟩
