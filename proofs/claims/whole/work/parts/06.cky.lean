theorem am_ckk0 : (List.range' 1 20).all am_ckK = true := by decide +kernel
theorem am_ckk1 : (List.range' 21 20).all am_ckK = true := by decide +kernel
theorem am_ckk2 : (List.range' 41 20).all am_ckK = true := by decide +kernel
theorem am_ckk3 : (List.range' 61 20).all am_ckK = true := by decide +kernel
theorem am_ckk4 : (List.range' 81 20).all am_ckK = true := by decide +kernel
theorem am_ckk5 : (List.range' 101 20).all am_ckK = true := by decide +kernel
theorem am_ckk6 : (List.range' 121 20).all am_ckK = true := by decide +kernel
theorem am_ckk7 : (List.range' 141 20).all am_ckK = true := by decide +kernel
theorem am_ckk8 : (List.range' 161 18).all am_ckK = true := by decide +kernel
theorem am_ckK_all : ∀ j, 0 < j → j < 179 → am_ckK j = true := by
  intro j hj hj2
  have key : ∀ (a n : Nat), (List.range' a n).all am_ckK = true → a ≤ j → j < a + n → am_ckK j = true := fun a n h h1 h2 => List.all_eq_true.mp h j (by simp; omega)
  by_cases h0 : j < 21
  · exact key _ _ am_ckk0 (by omega) (by omega)
  by_cases h1 : j < 41
  · exact key _ _ am_ckk1 (by omega) (by omega)
  by_cases h2 : j < 61
  · exact key _ _ am_ckk2 (by omega) (by omega)
  by_cases h3 : j < 81
  · exact key _ _ am_ckk3 (by omega) (by omega)
  by_cases h4 : j < 101
  · exact key _ _ am_ckk4 (by omega) (by omega)
  by_cases h5 : j < 121
  · exact key _ _ am_ckk5 (by omega) (by omega)
  by_cases h6 : j < 141
  · exact key _ _ am_ckk6 (by omega) (by omega)
  by_cases h7 : j < 161
  · exact key _ _ am_ckk7 (by omega) (by omega)
  by_cases h8 : j < 179
  · exact key _ _ am_ckk8 (by omega) (by omega)
  · omega
theorem am_ckp0 : (List.range' 1 20).all am_ckP = true := by decide +kernel
theorem am_ckp1 : (List.range' 21 20).all am_ckP = true := by decide +kernel
theorem am_ckp2 : (List.range' 41 20).all am_ckP = true := by decide +kernel
theorem am_ckp3 : (List.range' 61 20).all am_ckP = true := by decide +kernel
theorem am_ckp4 : (List.range' 81 20).all am_ckP = true := by decide +kernel
theorem am_ckp5 : (List.range' 101 20).all am_ckP = true := by decide +kernel
theorem am_ckp6 : (List.range' 121 20).all am_ckP = true := by decide +kernel
theorem am_ckp7 : (List.range' 141 20).all am_ckP = true := by decide +kernel
theorem am_ckp8 : (List.range' 161 18).all am_ckP = true := by decide +kernel
theorem am_ckP_all : ∀ j, 0 < j → j < 179 → am_ckP j = true := by
  intro j hj hj2
  have key : ∀ (a n : Nat), (List.range' a n).all am_ckP = true → a ≤ j → j < a + n → am_ckP j = true := fun a n h h1 h2 => List.all_eq_true.mp h j (by simp; omega)
  by_cases h0 : j < 21
  · exact key _ _ am_ckp0 (by omega) (by omega)
  by_cases h1 : j < 41
  · exact key _ _ am_ckp1 (by omega) (by omega)
  by_cases h2 : j < 61
  · exact key _ _ am_ckp2 (by omega) (by omega)
  by_cases h3 : j < 81
  · exact key _ _ am_ckp3 (by omega) (by omega)
  by_cases h4 : j < 101
  · exact key _ _ am_ckp4 (by omega) (by omega)
  by_cases h5 : j < 121
  · exact key _ _ am_ckp5 (by omega) (by omega)
  by_cases h6 : j < 141
  · exact key _ _ am_ckp6 (by omega) (by omega)
  by_cases h7 : j < 161
  · exact key _ _ am_ckp7 (by omega) (by omega)
  by_cases h8 : j < 179
  · exact key _ _ am_ckp8 (by omega) (by omega)
  · omega
theorem am_ckc0 : (List.range' 1 20).all am_ckC = true := by decide +kernel
theorem am_ckc1 : (List.range' 21 20).all am_ckC = true := by decide +kernel
theorem am_ckc2 : (List.range' 41 20).all am_ckC = true := by decide +kernel
theorem am_ckc3 : (List.range' 61 20).all am_ckC = true := by decide +kernel
theorem am_ckc4 : (List.range' 81 20).all am_ckC = true := by decide +kernel
theorem am_ckc5 : (List.range' 101 20).all am_ckC = true := by decide +kernel
theorem am_ckc6 : (List.range' 121 20).all am_ckC = true := by decide +kernel
theorem am_ckc7 : (List.range' 141 20).all am_ckC = true := by decide +kernel
theorem am_ckc8 : (List.range' 161 18).all am_ckC = true := by decide +kernel
theorem am_ckC_all : ∀ j, 0 < j → j < 179 → am_ckC j = true := by
  intro j hj hj2
  have key : ∀ (a n : Nat), (List.range' a n).all am_ckC = true → a ≤ j → j < a + n → am_ckC j = true := fun a n h h1 h2 => List.all_eq_true.mp h j (by simp; omega)
  by_cases h0 : j < 21
  · exact key _ _ am_ckc0 (by omega) (by omega)
  by_cases h1 : j < 41
  · exact key _ _ am_ckc1 (by omega) (by omega)
  by_cases h2 : j < 61
  · exact key _ _ am_ckc2 (by omega) (by omega)
  by_cases h3 : j < 81
  · exact key _ _ am_ckc3 (by omega) (by omega)
  by_cases h4 : j < 101
  · exact key _ _ am_ckc4 (by omega) (by omega)
  by_cases h5 : j < 121
  · exact key _ _ am_ckc5 (by omega) (by omega)
  by_cases h6 : j < 141
  · exact key _ _ am_ckc6 (by omega) (by omega)
  by_cases h7 : j < 161
  · exact key _ _ am_ckc7 (by omega) (by omega)
  by_cases h8 : j < 179
  · exact key _ _ am_ckc8 (by omega) (by omega)
  · omega
