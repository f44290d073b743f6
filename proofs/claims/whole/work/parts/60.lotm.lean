/-! LOTS: the model -/
def gcM : Nat → Int64 → Int64 → Option Int64
  | 0, _, _ => none
  | n + 1, p, q => if q = 0 then some p else gcM n q (p - p / q * q)
def chT (n : Nat) (i : Nat) (r : Int64) : Int64 := if 0 < r then r * (nI n - nI i).toInt64 / (nI (i + 1)).toInt64 else r
def chM (n k : Nat) : Int64 := fN (chT n) k (if k ≤ n then 1 else 0)
theorem ch_stay {n : Nat} {r0 : Int64} {i : Nat} (h : ¬ 0 < fN (chT n) i r0) : ∀ d, fN (chT n) (i + d) r0 = fN (chT n) i r0 := by
  intro d
  induction d with
  | zero => rfl
  | succ d ih => rw [← Nat.add_assoc, fN, ih, chT, if_neg h]
def addM (p : aFr) (a b : Int64) : Option aFr := match gcM 60 b p.2 with
  | none => none
  | some g => if g = 0 then none else match gcM 60 (p.2 / g * b) (p.1 * (b / g) + a * (p.2 / g)) with
    | none => none
    | some e => if e = 0 then none else some ((p.1 * (b / g) + a * (p.2 / g)) / e, (p.2 / g * b) / e)
theorem addM_ok {p p' : aFr} {a b : Int64} (h : addM p a b = some p') : ∃ g e, gcM 60 b p.2 = some g ∧ ¬ g = 0 ∧ gcM 60 (p.2 / g * b) (p.1 * (b / g) + a * (p.2 / g)) = some e ∧ ¬ e = 0 ∧ p' = ((p.1 * (b / g) + a * (p.2 / g)) / e, (p.2 / g * b) / e) := by
  unfold addM at h
  cases hg : gcM 60 b p.2 with
  | none => rw [hg] at h; cases h
  | some g =>
    rw [hg] at h
    dsimp only at h
    by_cases g0 : g = 0
    · rw [if_pos g0] at h; cases h
    rw [if_neg g0] at h
    cases he : gcM 60 (p.2 / g * b) (p.1 * (b / g) + a * (p.2 / g)) with
    | none => rw [he] at h; cases h
    | some e =>
      rw [he] at h
      dsimp only at h
      by_cases e0 : e = 0
      · rw [if_pos e0] at h; cases h
      rw [if_neg e0] at h
      exact ⟨g, e, rfl, g0, he, e0, (Option.some.inj h).symm⟩
def acM (n x : Nat) (p : aFr) (k : Nat) : Option aFr := addM p (chM (2 ^ n - 1 - x) (2 ^ k - 1)) (chM (2 ^ n - 1) (2 ^ k - 1))
def lmS (n x : Nat) (sel : Nat → Bool) (k : Nat) (o : Option aFr) : Option aFr := match o with
  | none => none
  | some p => if sel k = true then acM n x p k else some p
def lotM (n x : Nat) (sel : Nat → Bool) (i : Nat) : Option aFr := fN (lmS n x sel) i (some (0, 1))
theorem lot_none {n x : Nat} {sel : Nat → Bool} {i : Nat} (h : lotM n x sel i = none) : ∀ d, lotM n x sel (i + d) = none := by
  intro d
  induction d with
  | zero => exact h
  | succ d ih =>
    show lmS n x sel (i + d) (lotM n x sel (i + d)) = none
    rw [ih]; rfl
theorem lot_pre {n x : Nat} {sel : Nat → Bool} {P : aFr} {i d : Nat} (h : lotM n x sel (i + d) = some P) : ∃ p, lotM n x sel i = some p := by
  cases hc : lotM n x sel i with
  | none => rw [lot_none hc d] at h; cases h
  | some p => exact ⟨p, rfl⟩
theorem lot_c : ∀ n, n < 6 → ∀ x, x < 2 ^ n → ∀ k, k < n + 1 → lotM n x (fun j => j == k) (n + 1) = some (acC n x (0, 1) k) := by decide +kernel
theorem lot_m : ∀ n, n < 6 → ∀ x, x < 2 ^ n → lotM n x (fun j => decide (0 < j)) (n + 1) = some (meC n x n) := by decide +kernel

