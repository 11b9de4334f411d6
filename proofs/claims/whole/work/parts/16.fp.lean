def n64b (x : UInt64) : Bool := decide (x &&& 0x7fffffffffffffff ≤ 0x7ff0000000000000)
theorem n64_of {x : UInt64} (h : n64b x = true) : vf_n64 x := (of_decide_eq_true h : x &&& 0x7fffffffffffffff ≤ 0x7ff0000000000000)
def ltD (r x : UInt64) : Bool := decide (Op.cmpValue (FP.dcmp r x) .g < 0)
def bitsOk : Nat → UInt64 → Bool
  | 0, _ => false
  | k + 1, r => if ltD r FP.dconst1 = true then n64b (FP.dmul r 4611686018427387904) && bitsOk k (FP.dmul r 4611686018427387904) else n64b (FP.dsub r FP.dconst1) && n64b (FP.dmul (FP.dsub r FP.dconst1) 4841369599423283200)
def shV (n c : Nat) : UInt64 := FP.ddiv (FP.i2d (nI n)) (FP.i2d (nI (16 * (c + 1))))
def shOk (n c : Nat) : Bool := n64b (shV n c) && (Nat.beq n 0 || bitsOk 12 (shV n c))
