def psOk (n c : Nat) : Bool := if n = 0 then decide (¬ 0 < Op.cmpValue (FP.dcmp (shV n c) FP.dconst0) .g) && decide (Op.cmpValue (FP.dcmp (shV n c) FP.dconst0) .l = 0) else decide (0 < Op.cmpValue (FP.dcmp (shV n c) FP.dconst0) .g) && decide (¬ Op.cmpValue (FP.dcmp (shV n c) FP.dconst0) .l = 0)
theorem ps_ok0 : ∀ n, n < 17 → psOk n 0 = true := by decide +kernel
theorem ps_ok1 : ∀ n, n < 33 → psOk n 1 = true := by decide +kernel
theorem ps_ok2 : ∀ n, n < 49 → psOk n 2 = true := by decide +kernel
theorem ps_ok3 : ∀ n, n < 65 → psOk n 3 = true := by decide +kernel
theorem ps_ok4 : ∀ n, n < 81 → psOk n 4 = true := by decide +kernel
theorem ps_ok5 : ∀ n, n < 97 → psOk n 5 = true := by decide +kernel
theorem ps_ok6 : ∀ n, n < 113 → psOk n 6 = true := by decide +kernel
theorem ps_ok7 : ∀ n, n < 129 → psOk n 7 = true := by decide +kernel
theorem ps_ok8 : ∀ n, n < 145 → psOk n 8 = true := by decide +kernel
theorem ps_ok9 : ∀ n, n < 161 → psOk n 9 = true := by decide +kernel
theorem ps_ok10 : ∀ n, n < 177 → psOk n 10 = true := by decide +kernel
theorem ps_ok11 : ∀ n, n < 193 → psOk n 11 = true := by decide +kernel
theorem ps_ok12 : ∀ n, n < 209 → psOk n 12 = true := by decide +kernel
theorem ps_ok13 : ∀ n, n < 225 → psOk n 13 = true := by decide +kernel
theorem ps_ok14 : ∀ n, n < 241 → psOk n 14 = true := by decide +kernel
theorem ps_ok15 : ∀ n, n < 257 → psOk n 15 = true := by decide +kernel
theorem ps_ok16 : ∀ n, n < 273 → psOk n 16 = true := by decide +kernel
theorem ps_ok17 : ∀ n, n < 289 → psOk n 17 = true := by decide +kernel
theorem ps_ok18 : ∀ n, n < 305 → psOk n 18 = true := by decide +kernel
theorem ps_ok19 : ∀ n, n < 321 → psOk n 19 = true := by decide +kernel
theorem ps_ok20 : ∀ n, n < 337 → psOk n 20 = true := by decide +kernel
theorem ps_ok {n c : Nat} (hc : c ≤ 20) (h : n ≤ 16 * (c + 1)) : psOk n c = true := by
  have : c = 0 ∨ c = 1 ∨ c = 2 ∨ c = 3 ∨ c = 4 ∨ c = 5 ∨ c = 6 ∨ c = 7 ∨ c = 8 ∨ c = 9 ∨ c = 10 ∨ c = 11 ∨ c = 12 ∨ c = 13 ∨ c = 14 ∨ c = 15 ∨ c = 16 ∨ c = 17 ∨ c = 18 ∨ c = 19 ∨ c = 20 := by omega
  rcases this with rfl | rfl | rfl | rfl | rfl | rfl | rfl | rfl | rfl | rfl | rfl | rfl | rfl | rfl | rfl | rfl | rfl | rfl | rfl | rfl | rfl
  · exact ps_ok0 n (by omega)
  · exact ps_ok1 n (by omega)
  · exact ps_ok2 n (by omega)
  · exact ps_ok3 n (by omega)
  · exact ps_ok4 n (by omega)
  · exact ps_ok5 n (by omega)
  · exact ps_ok6 n (by omega)
  · exact ps_ok7 n (by omega)
  · exact ps_ok8 n (by omega)
  · exact ps_ok9 n (by omega)
  · exact ps_ok10 n (by omega)
  · exact ps_ok11 n (by omega)
  · exact ps_ok12 n (by omega)
  · exact ps_ok13 n (by omega)
  · exact ps_ok14 n (by omega)
  · exact ps_ok15 n (by omega)
  · exact ps_ok16 n (by omega)
  · exact ps_ok17 n (by omega)
  · exact ps_ok18 n (by omega)
  · exact ps_ok19 n (by omega)
  · exact ps_ok20 n (by omega)
