theorem sh_ok20 : ∀ n, n < 337 → shOk n 20 = true := by decide +kernel
theorem sh_ok19 : ∀ n, n < 321 → shOk n 19 = true := by decide +kernel
theorem sh_ok18 : ∀ n, n < 305 → shOk n 18 = true := by decide +kernel
