theorem sh_ok17 : ∀ n, n < 289 → shOk n 17 = true := by decide +kernel
theorem sh_ok16 : ∀ n, n < 273 → shOk n 16 = true := by decide +kernel
theorem sh_ok15 : ∀ n, n < 257 → shOk n 15 = true := by decide +kernel
