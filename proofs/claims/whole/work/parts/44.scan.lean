/-! what the model reads on the pad is what the class reads -/
theorem scanP_congr {f g : Nat → Int32} {n : Nat} (hfg : ∀ q, q < n → f q = g q) : ∀ k i r, i + k = n → scanP f n k i r = scanP g n k i r := by
  intro k
  induction k with
  | zero => intro i r _; rfl
  | succ k ih =>
    intro i r h
    rw [scanP, scanP, hfg i (by omega)]
    cases rdS r (g i) with
    | none => rfl
    | some r' => exact ih (i + 1) r' (by omega)
theorem scanP_sg {f : Nat → Int32} {n : Nat} (r : aRd) : scanP f n n 0 r = scanP (sg n f) n n 0 r := scanP_congr (fun q hq => by unfold sg; rw [if_pos hq]) n 0 r (by omega)
theorem scan_F {g : Nat → Int32} {n : Nat} (hg : ∀ q, n ≤ q → g q = 0) (h60 : n ≤ 60) : ∀ d q w l, q ≤ n → n - q ≤ d → (scanP g n (n - q) q (0, w, l)).1 = findF g n d q ∧ ∀ l', parseA g n d q = some l' → (scanP g n (n - q) q (0, w, l)).2 = l ++ l' := by
  intro d
  induction d with
  | zero =>
    intro q w l hq hd
    have e : n - q = 0 := by omega
    rw [e]
    refine ⟨rfl, fun l' h => ?_⟩
    cases h
    simp [scanP]
  | succ d ih =>
    intro q w l hq hd
    by_cases hqn : q < n
    case neg =>
      have e : n - q = 0 := by omega
      rw [e, findF, if_neg hqn, parseA, if_neg hqn]
      refine ⟨rfl, fun l' h => ?_⟩
      cases h
      simp [scanP]
    have ok : ∀ (L : Nat) (x : aAct) (w' : Nat), faultAt g q = -6 → lenAt g q = L → actAt g q = x → 1 ≤ L → q + L ≤ n → scanP g n (n - q) q (0, w, l) = scanP g n (n - (q + L)) (q + L) (0, w', l ++ [x]) → (scanP g n (n - q) q (0, w, l)).1 = findF g n (d + 1) q ∧ ∀ l', parseA g n (d + 1) q = some l' → (scanP g n (n - q) q (0, w, l)).2 = l ++ l' := by
      intro L x w' hf hL hx h1 hn hs
      obtain ⟨i1, i2⟩ := ih (q + L) w' (l ++ [x]) hn (by omega)
      rw [hs, findF, if_pos hqn, parseA, if_pos hqn, if_pos hf, if_pos hf, hL, hx]
      refine ⟨i1, fun l' h => ?_⟩
      obtain ⟨l2, h2, rfl⟩ := Option.map_eq_some_iff.mp h
      rw [i2 l2 h2]
      simp
    have bad : ∀ p, p < 1000 → faultAt g q = nI p → (scanP g n (n - q) q (0, w, l)).1 = nI p → (scanP g n (n - q) q (0, w, l)).1 = findF g n (d + 1) q ∧ ∀ l', parseA g n (d + 1) q = some l' → (scanP g n (n - q) q (0, w, l)).2 = l ++ l' := by
      intro p hp hf hs
      have hne : ¬ faultAt g q = -6 := by rw [hf]; exact nI_ne6 hp
      rw [findF, if_pos hqn, parseA, if_pos hqn, if_neg hne, if_neg hne, hf]
      exact ⟨hs, fun l' h => by cases h⟩
    have e1 : n - q = (n - (q + 1)) + 1 := by omega
    by_cases h46 : g q = 46
    · have hk : kindAt g q = 3 := by rw [kindAt, if_pos h46]
      refine ok 1 (3, 0, 0) 0 (by rw [faultAt, if_pos h46]) (by rw [lenAt, if_pos hk]) (by rw [actAt, hk]; rfl) (Nat.le_refl _) (by omega) ?_
      rw [e1, scanP, show rdS (0, w, l) (g q) = some (0, 0, l ++ [(3, 0, 0)]) by rw [rdS, if_pos rfl, if_neg (by rw [h46]; decide), if_pos h46]]
    by_cases hL : isL (g q) = true
    case neg =>
      refine bad q (by omega) (by rw [faultAt, if_neg h46, if_neg hL]) ?_
      rw [e1, scanP, show rdS (0, w, l) (g q) = none by rw [rdS, if_pos rfl, if_neg hL, if_neg h46]]
    have r1 : scanP g n (n - q) q (0, w, l) = scanP g n (n - (q + 1)) (q + 1) (1, letN (g q), l) := by
      rw [e1, scanP, show rdS (0, w, l) (g q) = some (1, letN (g q), l) by rw [rdS, if_pos rfl, if_pos hL]]
    have hF : faultAt g q = if g (q + 1) = 62 then (if isL (g (q + 2)) = true then -6 else nI (q + 2)) else if g (q + 1) = 42 ∨ isDg (g (q + 1)) = true then -6 else nI (q + 1) := by rw [faultAt, if_neg h46, if_pos hL]
    have hK : kindAt g q = if g (q + 1) = 62 then 0 else if g (q + 1) = 42 then 1 else 2 := by rw [kindAt, if_neg h46]
    by_cases h1n : q + 1 < n
    case neg =>
      have e2 : n - (q + 1) = 0 := by omega
      have e3 : n = q + 1 := by omega
      refine bad (q + 1) (by omega) ?_ ?_
      · rw [hF, hg (q + 1) (by omega), if_neg (by decide), if_neg (by decide)]
      · rw [r1, e2, scanP, if_neg (show ¬ (1 : Nat) = 0 by decide), ← e3]
    have e2 : n - (q + 1) = (n - (q + 1 + 1)) + 1 := by omega
    by_cases hD : isDg (g (q + 1)) = true
    · have h62 : ¬ g (q + 1) = 62 := fun z => by rw [z] at hD; exact absurd hD (by decide)
      have h42 : ¬ g (q + 1) = 42 := fun z => by rw [z] at hD; exact absurd hD (by decide)
      have hk : kindAt g q = 2 := by rw [hK, if_neg h62, if_neg h42]
      refine ok 2 (2, letN (g q), dgN (g (q + 1))) (letN (g q)) (by rw [hF, if_neg h62, if_pos (Or.inr hD)]) (by rw [lenAt, hk]; rfl) (by rw [actAt, hk]; rfl) (by decide) (by omega) ?_
      rw [r1, e2, scanP, show rdS (1, letN (g q), l) (g (q + 1)) = some (0, letN (g q), l ++ [(2, letN (g q), dgN (g (q + 1)))]) by rw [rdS, if_neg (show ¬ (1 : Nat) = 0 by decide), if_pos rfl, if_pos hD]]
    by_cases h62 : g (q + 1) = 62
    case neg =>
      by_cases h42 : g (q + 1) = 42
      · have hk : kindAt g q = 1 := by rw [hK, if_neg h62, if_pos h42]
        refine ok 2 (1, letN (g q), 0) (letN (g q)) (by rw [hF, if_neg h62, if_pos (Or.inl h42)]) (by rw [lenAt, hk]; rfl) (by rw [actAt, hk]; rfl) (by decide) (by omega) ?_
        rw [r1, e2, scanP, show rdS (1, letN (g q), l) (g (q + 1)) = some (0, letN (g q), l ++ [(1, letN (g q), 0)]) by rw [rdS, if_neg (show ¬ (1 : Nat) = 0 by decide), if_pos rfl, if_neg hD, if_neg h62, if_pos h42]]
      · refine bad (q + 1) (by omega) (by rw [hF, if_neg h62, if_neg (fun z => z.elim h42 hD)]) ?_
        rw [r1, e2, scanP, show rdS (1, letN (g q), l) (g (q + 1)) = none by rw [rdS, if_neg (show ¬ (1 : Nat) = 0 by decide), if_pos rfl, if_neg hD, if_neg h62, if_neg h42]]
    have r2 : scanP g n (n - q) q (0, w, l) = scanP g n (n - (q + 1 + 1)) (q + 1 + 1) (2, letN (g q), l) := by
      rw [r1, e2, scanP, show rdS (1, letN (g q), l) (g (q + 1)) = some (2, letN (g q), l) by rw [rdS, if_neg (show ¬ (1 : Nat) = 0 by decide), if_pos rfl, if_neg hD, if_pos h62]]
    by_cases h2n : q + 1 + 1 < n
    case neg =>
      have e3 : n - (q + 1 + 1) = 0 := by omega
      have e4 : n = q + 2 := by omega
      refine bad (q + 2) (by omega) ?_ ?_
      · rw [hF, if_pos h62, hg (q + 2) (by omega), if_neg (by decide)]
      · rw [r2, e3, scanP, if_neg (show ¬ (2 : Nat) = 0 by decide), ← e4]
    have e3 : n - (q + 1 + 1) = (n - (q + 1 + 1 + 1)) + 1 := by omega
    by_cases hL2 : isL (g (q + 1 + 1)) = true
    · have hk : kindAt g q = 0 := by rw [hK, if_pos h62]
      refine ok 3 (0, letN (g q), letN (g (q + 2))) (letN (g q)) (by rw [hF, if_pos h62, if_pos hL2]) (by rw [lenAt, hk]; rfl) (by rw [actAt, hk]; rfl) (by decide) (by omega) ?_
      rw [r2, e3, scanP, show rdS (2, letN (g q), l) (g (q + 1 + 1)) = some (0, letN (g q), l ++ [(0, letN (g q), letN (g (q + 1 + 1)))]) by rw [rdS, if_neg (show ¬ (2 : Nat) = 0 by decide), if_neg (show ¬ (2 : Nat) = 1 by decide), if_pos hL2]]
    · refine bad (q + 2) (by omega) (by rw [hF, if_pos h62, if_neg hL2]) ?_
      rw [r2, e3, scanP, show rdS (2, letN (g q), l) (g (q + 1 + 1)) = none by rw [rdS, if_neg (show ¬ (2 : Nat) = 0 by decide), if_neg (show ¬ (2 : Nat) = 1 by decide), if_neg hL2]]
theorem scan_all {f : Nat → Int32} {n : Nat} (h60 : n ≤ 60) : (scanP f n n 0 (0, 0, [])).1 = findF (sg n f) n 60 0 ∧ ∀ l', parseA (sg n f) n 60 0 = some l' → (scanP f n n 0 (0, 0, [])).2 = l' := by
  rw [scanP_sg]
  have := scan_F (g := sg n f) (n := n) (fun q hq => by unfold sg; rw [if_neg (by omega)]) h60 60 0 0 [] (by omega) (by omega)
  rw [Nat.sub_zero] at this
  simpa using this
