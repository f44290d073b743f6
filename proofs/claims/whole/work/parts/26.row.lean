/-! THE ROW: what each row is worth -/
def wtL : List Nat := [0, 1, 1, 2, 0, 3, 1, 1, 0, 3, 3, 2, 2, 4, 0, 5, 2, 2, 3, 3, 0, 1, 1, 3, 0, 2, 1, 1, 0, 4, 5, 2, 7, 4, 0, 1, 1, 2, 0, 3, 1, 1, 0, 3, 3, 2, 2, 4, 4, 5, 5, 2, 3, 3, 0, 1, 1, 3, 0, 2, 1, 1, 0, 4, 5, 3, 7, 4, 8, 1, 1, 2, 0, 3, 1, 1, 0, 3, 3, 2, 2, 4, 4, 5, 5, 9, 3, 3, 0, 1, 1, 3, 0, 2, 1, 1, 0, 4, 5, 3]
def Wt (n : Nat) : Nat := wtL.getD n 0
def RG (m : aMem) : Prop := ∃ kn, 1 ≤ kn ∧ kn ≤ 100 ∧ m.1 30 1 = nI kn ∧ ∀ j, j < kn → m.1 31 j = nI (Wt j)
theorem Fr.rg {lo hi : Nat} {m m' : aMem} (h : Fr lo hi m m') (hq : 31 < lo ∨ hi ≤ 30) (hR : RG m) : RG m' := by
  obtain ⟨kn, h1, h2, h3, h4⟩ := hR
  exact ⟨kn, h1, h2, by rw [h.i (by omega)]; exact h3, fun j hj => by rw [h.i (by omega)]; exact h4 j hj⟩
