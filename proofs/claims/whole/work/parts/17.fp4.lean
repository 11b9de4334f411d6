theorem sh_ok5 : ∀ n, n < 97 → shOk n 5 = true := by decide +kernel
theorem sh_ok4 : ∀ n, n < 81 → shOk n 4 = true := by decide +kernel
theorem sh_ok3 : ∀ n, n < 65 → shOk n 3 = true := by decide +kernel
theorem sh_ok2 : ∀ n, n < 49 → shOk n 2 = true := by decide +kernel
theorem sh_ok1 : ∀ n, n < 33 → shOk n 1 = true := by decide +kernel
theorem sh_ok0 : ∀ n, n < 17 → shOk n 0 = true := by decide +kernel
