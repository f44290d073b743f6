/-! bits of sets of ten -/
theorem bt_1 : ∀ o, o < 10 → ∀ T, T < 1024 → T.testBit o = true → (T - 2 ^ o).testBit o = false ∧ (T - 2 ^ o) ||| 2 ^ o = T := by decide +kernel
theorem bt_2 : ∀ o, o < 10 → ∀ n, n < 1024 → n.testBit o = false → (n ||| 2 ^ o).testBit o = true ∧ (n ||| 2 ^ o) - 2 ^ o = n ∧ n ||| 2 ^ o ≠ n ∧ n ||| 2 ^ o ≠ 0 := by decide +kernel
