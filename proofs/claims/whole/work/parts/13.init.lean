/-! THE START: the constructors, run by the kernel; the law's first instructions -/
theorem am_sH_ind (X X' : aX) (i : Instr) (pc len : Nat) (ls st : List Value) (S : aSt) : am_sH X false i pc len ls st S = am_sH X' false i pc len ls st S := by
  unfold am_sH
  split <;> first | rfl | (split <;> first | rfl | simp)
theorem am_ev_ind (X X' : aX) : ∀ (n : Nat) {j pc : Nat} {ls st : List Value} {S : aSt}, j ≠ 0 → am_ev X n j pc ls st S = am_ev X' n j pc ls st S
  | 0, j, pc, ls, st, S, hj => rfl
  | n + 1, j, pc, ls, st, S, hj => by
    rw [am_ev, am_ev]
    cases hI : am_in j pc with
    | none => rfl
    | some I =>
      dsimp only
      cases hc : am_call j I st S with
      | some q =>
        obtain ⟨k, As, rest⟩ := q
        dsimp only
        have hk : k ≠ 0 := by
          unfold am_call at hc
          dsimp only at hc
          split at hc
          · split at hc
            · next h => cases hc; omega
            · cases hc
          · cases hc
        rw [am_ev_ind X X' n hk]
        cases am_ev X' n k 0 (am_en As (am_L k)) [] S with
        | none => rfl
        | some w => exact am_ev_ind X X' n hj
      | none =>
        dsimp only
        cases hr : am_ret j I.1 st with
        | some q => rfl
        | none =>
          dsimp only
          have hb : Nat.beq j 0 = false := by cases j with
            | zero => exact absurd rfl hj
            | succ j => rfl
          have hs : am_step X j I pc ls st S = am_step X' j I pc ls st S := by
            unfold am_step
            rw [hb, am_sH_ind X X']
          rw [hs]
          cases am_step X' j I pc ls st S with
          | none => rfl
          | some w => exact am_ev_ind X X' n hj
theorem ev_step {X : aX} {n j pc pc' : Nat} {ls st ls' st' : List Value} {S S' : aSt} {I : aI} (hI : am_in j pc = some I) (hc : am_call j I st S = none) (hr : am_ret j I.1 st = none) (hs : am_step X j I pc ls st S = some (pc', ls', st', S')) : am_ev X (n + 1) j pc ls st S = am_ev X n j pc' ls' st' S' := by
  rw [am_ev, hI]
  dsimp only
  rw [hc]
  dsimp only
  rw [hr]
  dsimp only
  rw [hs]
theorem ev_call {X : aX} {n j pc k : Nat} {ls st As rest : List Value} {S S1 : aSt} {I : aI} {r1 : Option Value} (hI : am_in j pc = some I) (hc : am_call j I st S = some (k, As, rest)) (h1 : am_ev X n k 0 (am_en As (am_L k)) [] S = some (r1, S1)) : am_ev X (n + 1) j pc ls st S = am_ev X n j (pc + 3) ls (r1.toList ++ rest) S1 := by
  rw [am_ev, hI]
  dsimp only
  rw [hc]
  dsimp only
  rw [h1]
def aX0 : aX := (0, fun _ => 0)
def aS0 : aSt := ([], (fun _ _ => 0, fun _ _ => 0))
def aS1 : aSt := ([.inr (10, List.replicate 12 none)], am_zi aS0.2.1 1, am_zl aS0.2.2 1)
def aS3 (S : aSt) : aSt := (S.1 ++ [.inr (11, List.replicate 36 none)], am_zi S.2.1 (S.1.length + 1), am_zl S.2.2 (S.1.length + 1))
noncomputable def am_ini : Option (aSt × aSt) := match am_ev aX0 1000 75 0 (am_en [.ref 1] 1) [] aS1 with
  | some (none, S) => (match am_ev aX0 1000 104 0 (am_en [.ref 53] 2) [] (aS3 S) with
    | some (none, S') => some (S, S')
    | _ => none)
  | _ => none
/-- what is looked at of the memory at the start -/
def am_iniM (m : aMem) : Bool :=
  (List.range 10).all (fun k => decide (m.1 3 k = nI (10 * k + 5)) && decide (m.1 4 k = 0) && decide (m.1 5 k = 1) && decide (m.1 6 k = nI (k % 4)) && decide (m.1 7 k = nI (2 ^ k)) &&
    decide (m.1 54 k = nI (10 * k + 5)) && decide (m.1 55 k = 0) && decide (m.1 56 k = 1) && decide (m.1 57 k = nI (k % 4)) && decide (m.1 58 k = nI (2 ^ k))) &&
  decide (m.1 2 5 = 0) && decide (m.1 53 5 = 0) && decide (m.1 8 1 = 0) && decide (m.1 53 10 = 0) && decide (m.1 24 2 = 0) && decide (m.1 53 8 = 0) &&
  (List.range 8).all (fun k => decide (m.1 25 k = 0) && decide (m.1 26 k = 0) && decide (m.1 59 k = 0) && decide (m.1 60 k = 0)) &&
  decide (m.1 33 2 = 0) && decide (m.1 43 2 = 0) && decide (m.1 72 0 = 0) && decide (m.1 72 1 = 0) && decide (m.1 30 1 = 1) && decide (m.1 31 0 = 0)
theorem am_ini_ok : (match am_ini with
  | some (S, S') => decide (S.1 = SHP.take 52) && decide (S'.1 = SHP) && am_iniM S'.2
  | none => false) = true := by decide +kernel
theorem am_ini_run : ∃ (m1 m0 : aMem), am_ev aX0 1000 75 0 (am_en [.ref 1] 1) [] aS1 = some (none, (SHP.take 52, m1)) ∧ am_ev aX0 1000 104 0 (am_en [.ref 53] 2) [] (aS3 (SHP.take 52, m1)) = some (none, (SHP, m0)) ∧ am_iniM m0 = true := by
  have h := am_ini_ok
  cases hi : am_ini with
  | none => rw [hi] at h; cases h
  | some q =>
    obtain ⟨⟨s1, m1⟩, ⟨s2, m2⟩⟩ := q
    rw [hi] at h
    simp only [Bool.and_eq_true, decide_eq_true_eq] at h
    obtain ⟨⟨h1, h2⟩, h3⟩ := h
    subst h1; subst h2
    refine ⟨m1, m2, ?_, ?_, h3⟩
    · unfold am_ini at hi
      split at hi
      · next S hS =>
        split at hi
        · cases hi; exact hS
        · cases hi
      · cases hi
    · unfold am_ini at hi
      split at hi
      · next S hS =>
        split at hi
        · next S' hS' => cases hi; exact hS'
        · cases hi
      · cases hi
theorem am_start {X : aX} {Q : Option Value → aMem → Prop} (h : ∀ m0 : aMem, am_iniM m0 = true → gG X 0 18 [.ref 0, .ref 1, .ref 53, .int 0] [] m0 Q) : ∃ (n : Nat) (r : Option Value) (m' : aMem), am_ev X n 0 0 (am_en [.ref 0] 4) [] aS0 = some (r, (SHP, m')) ∧ Q r m' := by
  obtain ⟨m1, m0, h1, h2, h3⟩ := am_ini_run
  obtain ⟨n, r, m', hr, hQ⟩ := h m0 h3
  rw [am_ev_ind aX0 X 1000 (by decide)] at h1 h2
  refine ⟨n + 1000 + 10, r, m', ?_, hQ⟩
  have e1 := am_ev_add h1
  have e2 := am_ev_add h2
  have e3 := am_ev_add hr
  rw [ev_step (pc' := 3) (ls' := [.ref 0, .null, .null, .null]) (st' := [.ref 1]) (S' := aS1) rfl rfl rfl rfl]
  rw [ev_step (pc' := 4) (ls' := [.ref 0, .null, .null, .null]) (st' := [.ref 1, .ref 1]) (S' := aS1) rfl rfl rfl rfl]
  rw [ev_call (k := 75) (As := [.ref 1]) (rest := [.ref 1]) (r1 := none) (S1 := (SHP.take 52, m1)) rfl rfl (by rw [show n + 1000 + 7 = 1000 + (n + 7) by omega]; exact e1 _)]
  rw [ev_step (pc' := 8) (ls' := [.ref 0, .ref 1, .null, .null]) (st' := []) (S' := (SHP.take 52, m1)) rfl rfl rfl rfl]
  rw [ev_step (pc' := 11) (ls' := [.ref 0, .ref 1, .null, .null]) (st' := [.ref 53]) (S' := aS3 (SHP.take 52, m1)) rfl rfl rfl rfl]
  rw [ev_step (pc' := 12) (ls' := [.ref 0, .ref 1, .null, .null]) (st' := [.ref 53, .ref 53]) (S' := aS3 (SHP.take 52, m1)) rfl rfl rfl rfl]
  rw [ev_call (k := 104) (As := [.ref 53]) (rest := [.ref 53]) (r1 := none) (S1 := (SHP, m0)) rfl rfl (by rw [show n + 1000 + 3 = 1000 + (n + 3) by omega]; exact e2 _)]
  rw [ev_step (pc' := 16) (ls' := [.ref 0, .ref 1, .ref 53, .null]) (st' := []) (S' := (SHP, m0)) rfl rfl rfl rfl]
  rw [ev_step (pc' := 17) (ls' := [.ref 0, .ref 1, .ref 53, .null]) (st' := [.int 0]) (S' := (SHP, m0)) rfl rfl rfl rfl]
  rw [ev_step (pc' := 18) (ls' := [.ref 0, .ref 1, .ref 53, .int 0]) (st' := []) (S' := (SHP, m0)) rfl rfl rfl rfl]
  rw [show n + 1000 = n + 1000 by omega]
  exact e3 1000
