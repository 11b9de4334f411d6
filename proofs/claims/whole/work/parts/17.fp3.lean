theorem sh_ok10 : ∀ n, n < 177 → shOk n 10 = true := by decide +kernel
theorem sh_ok9 : ∀ n, n < 161 → shOk n 9 = true := by decide +kernel
theorem sh_ok8 : ∀ n, n < 145 → shOk n 8 = true := by decide +kernel
theorem sh_ok7 : ∀ n, n < 129 → shOk n 7 = true := by decide +kernel
theorem sh_ok6 : ∀ n, n < 113 → shOk n 6 = true := by decide +kernel
