theorem am_ckm0 : (List.range' 0 1).all am_ckM = true := by decide +kernel
theorem am_ckm1 : (List.range' 1 19).all am_ckM = true := by decide +kernel
theorem am_ckm2 : (List.range' 20 20).all am_ckM = true := by decide +kernel
theorem am_ckm3 : (List.range' 40 20).all am_ckM = true := by decide +kernel
theorem am_ckm4 : (List.range' 60 15).all am_ckM = true := by decide +kernel
theorem am_ckm5 : (List.range' 75 15).all am_ckM = true := by decide +kernel
theorem am_ckm6 : (List.range' 90 15).all am_ckM = true := by decide +kernel
theorem am_ckm7 : (List.range' 105 15).all am_ckM = true := by decide +kernel
theorem am_ckm8 : (List.range' 120 15).all am_ckM = true := by decide +kernel
theorem am_ckm9 : (List.range' 135 15).all am_ckM = true := by decide +kernel
theorem am_ckm10 : (List.range' 150 15).all am_ckM = true := by decide +kernel
theorem am_ckm11 : (List.range' 165 16).all am_ckM = true := by decide +kernel
theorem am_nb {a b : Nat} (h : Nat.blt a b = true) : a < b := Nat.lt_of_lt_of_le (Nat.lt_succ_self a) (Nat.le_of_ble_eq_true h)
theorem am_ckM_all : ∀ j, j < 181 → am_ckM j = true := by
  intro j hj
  have key : ∀ (a n : Nat), (List.range' a n).all am_ckM = true → a ≤ j → j < a + n → am_ckM j = true := fun a n h h1 h2 => List.all_eq_true.mp h j (by simp; omega)
  by_cases h0 : j < 1
  · exact key _ _ am_ckm0 (by omega) (by omega)
  by_cases h1 : j < 20
  · exact key _ _ am_ckm1 (by omega) (by omega)
  by_cases h2 : j < 40
  · exact key _ _ am_ckm2 (by omega) (by omega)
  by_cases h3 : j < 60
  · exact key _ _ am_ckm3 (by omega) (by omega)
  by_cases h4 : j < 75
  · exact key _ _ am_ckm4 (by omega) (by omega)
  by_cases h5 : j < 90
  · exact key _ _ am_ckm5 (by omega) (by omega)
  by_cases h6 : j < 105
  · exact key _ _ am_ckm6 (by omega) (by omega)
  by_cases h7 : j < 120
  · exact key _ _ am_ckm7 (by omega) (by omega)
  by_cases h8 : j < 135
  · exact key _ _ am_ckm8 (by omega) (by omega)
  by_cases h9 : j < 150
  · exact key _ _ am_ckm9 (by omega) (by omega)
  by_cases h10 : j < 165
  · exact key _ _ am_ckm10 (by omega) (by omega)
  by_cases h11 : j < 181
  · exact key _ _ am_ckm11 (by omega) (by omega)
  · omega
theorem am_ok {j pc : Nat} {I : aI} (h : am_in j pc = some I) : am_ckI j pc I = true := by
  unfold am_in at h
  cases hc : (Nat.blt j 181 && Nat.blt pc (am_len j)) with
  | false => rw [hc] at h; cases h
  | true =>
    rw [hc] at h
    have h' : am_tr j pc = some I := h
    rw [Bool.and_eq_true] at hc
    have h1 := am_ckM_all j (am_nb hc.1)
    unfold am_ckM at h1
    have h2 := List.all_eq_true.mp h1 pc (List.mem_range.mpr (am_nb hc.2))
    rw [h'] at h2
    exact h2
theorem am_wd_mem {w : Nat} {c : Cond} (h : am_wd w c = true) : c ∈ am_tb := by
  unfold am_wd at h
  rw [Bool.and_eq_true] at h
  exact List.mem_filter.mpr ⟨List.mem_of_getElem? (of_decide_eq_true h.1), h.2⟩
theorem am_wn_mem {w : Nat} {c : Cond} (h : am_wn w c = true) : c ∈ lw_tbl := List.mem_of_getElem? (of_decide_eq_true h)
