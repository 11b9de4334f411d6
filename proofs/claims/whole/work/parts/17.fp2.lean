theorem sh_ok14 : ∀ n, n < 241 → shOk n 14 = true := by decide +kernel
theorem sh_ok13 : ∀ n, n < 225 → shOk n 13 = true := by decide +kernel
theorem sh_ok12 : ∀ n, n < 209 → shOk n 12 = true := by decide +kernel
theorem sh_ok11 : ∀ n, n < 193 → shOk n 11 = true := by decide +kernel
