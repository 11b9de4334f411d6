theorem sh_ok {n c : Nat} (hc : c ≤ 20) (h : n ≤ 16 * (c + 1)) : shOk n c = true := by
  have : c = 0 ∨ c = 1 ∨ c = 2 ∨ c = 3 ∨ c = 4 ∨ c = 5 ∨ c = 6 ∨ c = 7 ∨ c = 8 ∨ c = 9 ∨ c = 10 ∨ c = 11 ∨ c = 12 ∨ c = 13 ∨ c = 14 ∨ c = 15 ∨ c = 16 ∨ c = 17 ∨ c = 18 ∨ c = 19 ∨ c = 20 := by omega
  rcases this with rfl | rfl | rfl | rfl | rfl | rfl | rfl | rfl | rfl | rfl | rfl | rfl | rfl | rfl | rfl | rfl | rfl | rfl | rfl | rfl | rfl
  · exact sh_ok0 n (by omega)
  · exact sh_ok1 n (by omega)
  · exact sh_ok2 n (by omega)
  · exact sh_ok3 n (by omega)
  · exact sh_ok4 n (by omega)
  · exact sh_ok5 n (by omega)
  · exact sh_ok6 n (by omega)
  · exact sh_ok7 n (by omega)
  · exact sh_ok8 n (by omega)
  · exact sh_ok9 n (by omega)
  · exact sh_ok10 n (by omega)
  · exact sh_ok11 n (by omega)
  · exact sh_ok12 n (by omega)
  · exact sh_ok13 n (by omega)
  · exact sh_ok14 n (by omega)
  · exact sh_ok15 n (by omega)
  · exact sh_ok16 n (by omega)
  · exact sh_ok17 n (by omega)
  · exact sh_ok18 n (by omega)
  · exact sh_ok19 n (by omega)
  · exact sh_ok20 n (by omega)
theorem sh_n64 {n c : Nat} (hc : c ≤ 20) (h : n ≤ 16 * (c + 1)) : vf_n64 (shV n c) := by
  have := sh_ok hc h
  unfold shOk at this
  rw [Bool.and_eq_true] at this
  exact n64_of this.1
