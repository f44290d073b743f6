/-! CUPS: the four of a half, by the bits of its set -/
def mbL (S : Nat) : List Nat := (List.range 8).filter (fun o => S.testBit o)
def mb (S j : Nat) : Nat := (mbL S).getD j 0
def cnt (S i : Nat) : Nat := fN (fun o a => if S.testBit o = true then a + 1 else a) i 0
theorem cnt_k : ∀ S, S < 256 → ∀ i, i < 8 → S.testBit i = true → mb S (cnt S i) = i := by decide +kernel
theorem cnt_8 : ∀ S, S < 256 → cnt S 8 = pcN S := by decide +kernel
theorem mb_k : ∀ S, S < 256 → pcN S = 4 → ∀ j, j < 4 → mb S j < 8 ∧ S.testBit (mb S j) = true ∧ ∀ i, i < j → mb S i < mb S j := by decide +kernel
theorem co_k : ∀ S, S < 256 → pcN S = 4 → pcN (255 - S) = 4 ∧ ∀ o, o < 8 → (255 - S).testBit o = !S.testBit o := by decide +kernel
theorem co_x : ∀ S, S < 256 → (255 : Int32) &&& (nI S ^^^ -1) = nI (255 - S) := by decide +kernel
theorem cnt_s (S i : Nat) : cnt S (i + 1) = if S.testBit i = true then cnt S i + 1 else cnt S i := rfl
theorem cnt_le (S i : Nat) : cnt S i ≤ i := by
  induction i with
  | zero => exact Nat.le_refl _
  | succ i ih => rw [cnt_s]; split <;> omega
theorem cnt_mono (S i d : Nat) : cnt S i ≤ cnt S (i + d) := by
  induction d with
  | zero => exact Nat.le_refl _
  | succ d ih => rw [← Nat.add_assoc, cnt_s]; split <;> omega
/-- the one of its half that is left, of the three ways to pair -/
def sc (s : aStr) (a : Nat) : Nat × Nat := (a, ix (sC s a))
def hlf (s : aStr) (S w : Nat) : Nat × Nat := meP s (meP s (sc s (mb S 0)) (sc s (mb S (1 + w)))) (meP s (sc s (mb S (if w = 0 then 2 else 1))) (sc s (mb S (if w = 2 then 2 else 3))))
