/-! ROUNDS: forward and backward tables are one -/
def orF (t : Nat → Nat) : Nat → Nat := fun k => fN (fun o a => a ||| t o) k 0
theorem orF_s (t : Nat → Nat) (k : Nat) : orF t (k + 1) = orF t k ||| t k := rfl
theorem orF_congr {t t' : Nat → Nat} : ∀ k, (∀ o, o < k → t' o = t o) → orF t' k = orF t k := by
  intro k
  induction k with
  | zero => intro _; rfl
  | succ k ih => intro h; rw [orF_s, orF_s, ih (fun o ho => h o (by omega)), h k (by omega)]
theorem orF_add {t t' : Nat → Nat} {i : Nat} (h0 : t i = 0) : ∀ k, i < k → (∀ o, o < k → o ≠ i → t' o = t o) → orF t' k = orF t k ||| t' i := by
  intro k
  induction k with
  | zero => intro h; omega
  | succ k ih =>
    intro hi h
    rw [orF_s, orF_s]
    by_cases e : i = k
    · subst e
      rw [h0, Nat.or_zero, orF_congr (t := t) i (fun o ho => h o (by omega) (by omega))]
    · rw [ih (by omega) (fun o ho hne => h o (by omega) hne), h k (by omega) (Ne.symm e), Nat.or_assoc, Nat.or_assoc, Nat.or_comm (t' i)]
theorem orF_z {t : Nat → Nat} : ∀ k, (∀ o, o < k → t o = 0) → orF t k = 0 := by
  intro k
  induction k with
  | zero => intro _; rfl
  | succ k ih => intro h; rw [orF_s, ih (fun o ho => h o (by omega)), h k (by omega)]; rfl
theorem lb_or {s : aStr} {x S : Nat} {D : Nat → Nat} : lbN s x D S = orF (fun o => if S.testBit o = true then stepN (aoN s x o) (D (S - 2 ^ o)) else 0) 10 := by
  unfold lbN orF
  refine fN_ext 10 0 (fun o _ a => ?_)
  unfold lbS
  by_cases hb : S.testBit o = true
  · rw [if_pos hb]; simp only [if_pos hb]
  · rw [if_neg hb]; simp only [if_neg hb, Nat.or_zero]
section RP
variable (s : aStr) (x c0 : Nat)
def tm (T n i o : Nat) : Nat := if T.testBit o = true ∧ (T - 2 ^ o < n ∨ (T - 2 ^ o = n ∧ o < i)) then stepN (aoN s x o) (tD s x c0 (T - 2 ^ o)) else 0
def Gi (T n i : Nat) : Nat := if T = 0 then 2 ^ c0 else orF (tm s x c0 T n i) 10
theorem gi_n (n i : Nat) : Gi s x c0 n n i = tD s x c0 n := by
  unfold Gi
  by_cases h : n = 0
  · rw [if_pos h, h, tD_0]
  · rw [if_neg h, tD_s h, lb_or]
    refine orF_congr 10 (fun o _ => ?_)
    unfold tm
    by_cases hb : n.testBit o = true
    · have := tb_ge hb
      have := Nat.two_pow_pos o
      rw [if_pos ⟨hb, Or.inl (by omega)⟩, if_pos hb]
    · rw [if_neg (fun z => hb z.1), if_neg hb]
theorem gi_10 (T n : Nat) : Gi s x c0 T n 10 = Gi s x c0 T (n + 1) 0 := by
  unfold Gi
  by_cases h : T = 0
  · rw [if_pos h, if_pos h]
  · rw [if_neg h, if_neg h]
    refine orF_congr 10 (fun o ho => ?_)
    unfold tm
    by_cases hc : T.testBit o = true ∧ T - 2 ^ o ≤ n
    · rw [if_pos ⟨hc.1, by omega⟩, if_pos ⟨hc.1, by omega⟩]
    · rw [if_neg (fun z => hc ⟨z.1, by omega⟩), if_neg (fun z => hc ⟨z.1, by omega⟩)]
theorem gi_z (T n : Nat) (hz : tD s x c0 n = 0) : Gi s x c0 T n 0 = Gi s x c0 T (n + 1) 0 := by
  unfold Gi
  by_cases h : T = 0
  · rw [if_pos h, if_pos h]
  · rw [if_neg h, if_neg h]
    refine orF_congr 10 (fun o ho => ?_)
    unfold tm
    by_cases hc : T.testBit o = true ∧ T - 2 ^ o < n
    · rw [if_pos ⟨hc.1, by omega⟩, if_pos ⟨hc.1, by omega⟩]
    · rw [if_neg (fun z => hc ⟨z.1, by omega⟩)]
      by_cases hd : T.testBit o = true ∧ T - 2 ^ o = n
      · rw [if_pos ⟨hd.1, by omega⟩, hd.2, hz, stepN_0]
      · rw [if_neg (fun z => by have := z.2; have := z.1; by_cases e : T - 2 ^ o = n; exact hd ⟨z.1, e⟩; exact hc ⟨z.1, by omega⟩)]
theorem gt_s (T n i : Nat) (hT : T < 1024) (hn : n < 1024) (hi : i < 10) : Gi s x c0 T n (i + 1) = if n.testBit i = true then Gi s x c0 T n i else if T = n ||| 2 ^ i then Gi s x c0 T n i ||| stepN (aoN s x i) (tD s x c0 n) else Gi s x c0 T n i := by
  by_cases hT0 : T = 0
  · have hne : ¬ n.testBit i = true → ¬ T = n ||| 2 ^ i := fun hb z => (bt_2 i hi n hn (Bool.eq_false_iff.mpr hb)).2.2.2 (by rw [← z]; exact hT0)
    unfold Gi
    rw [if_pos hT0, if_pos hT0]
    by_cases hb : n.testBit i = true
    · rw [if_pos hb]
    · rw [if_neg hb, if_neg (hne hb)]
  have same : ¬ (T.testBit i = true ∧ T - 2 ^ i = n) → Gi s x c0 T n (i + 1) = Gi s x c0 T n i := by
    intro hc
    unfold Gi
    rw [if_neg hT0, if_neg hT0]
    refine orF_congr 10 (fun o ho => ?_)
    unfold tm
    by_cases hq : T.testBit o = true ∧ (T - 2 ^ o < n ∨ (T - 2 ^ o = n ∧ o < i))
    · rw [if_pos hq, if_pos ⟨hq.1, by omega⟩]
    · rw [if_neg hq, if_neg (fun z => hq ⟨z.1, by
        rcases z.2 with w | w
        · exact Or.inl w
        · by_cases e : o = i
          · subst e; exact absurd ⟨z.1, w.1⟩ hc
          · exact Or.inr ⟨w.1, by omega⟩⟩)]
  by_cases hb : n.testBit i = true
  · rw [if_pos hb]
    refine same (fun z => ?_)
    have := (bt_1 i hi T hT z.1).1
    rw [z.2, hb] at this
    exact absurd this (by decide)
  · rw [if_neg hb]
    have b2 := bt_2 i hi n hn (Bool.eq_false_iff.mpr hb)
    by_cases e : T = n ||| 2 ^ i
    · rw [if_pos e]
      have ht : T.testBit i = true ∧ T - 2 ^ i = n := by rw [e]; exact ⟨b2.1, b2.2.1⟩
      unfold Gi
      rw [if_neg hT0, if_neg hT0]
      have := orF_add (t := tm s x c0 T n i) (t' := tm s x c0 T n (i + 1)) (i := i) (by unfold tm; rw [if_neg (fun z => by omega)]) 10 hi (fun o ho hne => by
        unfold tm
        by_cases hq : T.testBit o = true ∧ (T - 2 ^ o < n ∨ (T - 2 ^ o = n ∧ o < i))
        · rw [if_pos hq, if_pos ⟨hq.1, by omega⟩]
        · rw [if_neg hq, if_neg (fun z => hq ⟨z.1, by omega⟩)])
      rw [this]
      congr 1
      unfold tm
      rw [if_pos ⟨ht.1, Or.inr ⟨ht.2, by omega⟩⟩, ht.2]
    · rw [if_neg e]
      exact same (fun z => e (by have := (bt_1 i hi T hT z.1).2; rw [z.2] at this; exact this.symm))
def fwS (S : Nat) (p : (Nat → Nat) × Nat) : (Nat → Nat) × Nat := if p.1 S ≠ 0 then (fN (spS s x S) 10 p.1, if pcN p.2 < pcN S then S else p.2) else p
def f0 : Nat → Nat := fun T => if T = 0 then 2 ^ c0 else 0
theorem sp_i {f : Nat → Nat} {n : Nat} (hn : n < 1024) (hf : ∀ T, T < 1024 → f T = Gi s x c0 T n 0) : ∀ i, i ≤ 10 → ∀ T, T < 1024 → fN (spS s x n) i f T = Gi s x c0 T n i := by
  intro i
  induction i with
  | zero => intro _ T hT; exact hf T hT
  | succ i ih =>
    intro hi T hT
    have ih := ih (by omega)
    rw [fN, gt_s s x c0 T n i hT hn (by omega)]
    generalize fN (spS s x n) i f = g at ih ⊢
    unfold spS
    by_cases hb : n.testBit i = true
    · rw [if_pos hb, if_pos hb]; exact ih T hT
    · rw [if_neg hb, if_neg hb]
      unfold upN'
      rw [ih n hn, gi_n, ih _ (or_1024 hn (by omega))]
      by_cases e : T = n ||| 2 ^ i
      · rw [if_pos e, if_pos e, e]
      · rw [if_neg e, if_neg e]; exact ih T hT
theorem fw_inv : ∀ n, n ≤ 1024 → (∀ T, T < 1024 → (fN (fwS s x) n (f0 c0, 0)).1 T = Gi s x c0 T n 0) ∧ (fN (fwS s x) n (f0 c0, 0)).2 = moN (tD s x c0) n := by
  intro n
  induction n with
  | zero =>
    intro _
    refine ⟨fun T hT => ?_, rfl⟩
    show f0 c0 T = _
    unfold f0 Gi
    by_cases h : T = 0
    · rw [if_pos h, if_pos h]
    · rw [if_neg h, if_neg h, orF_z 10 (fun o _ => by unfold tm; rw [if_neg (fun z => by omega)])]
  | succ n ih =>
    intro hn
    obtain ⟨i1, i2⟩ := ih (by omega)
    rw [fN]
    have em : moN (tD s x c0) (n + 1) = moS (tD s x c0) n (moN (tD s x c0) n) := rfl
    have en : (fN (fwS s x) n (f0 c0, 0)).1 n = tD s x c0 n := (i1 n (by omega)).trans (gi_n s x c0 n 0)
    unfold fwS at *
    by_cases hz : tD s x c0 n = 0
    · rw [if_neg (fun z => z (en.trans hz)), em]
      refine ⟨fun T hT => (i1 T hT).trans (gi_z s x c0 T n hz), ?_⟩
      rw [i2]; unfold moS; rw [if_neg (fun z => z.1 hz)]
    · rw [if_pos (fun z => hz (en.symm.trans z)), em]
      refine ⟨fun T hT => (sp_i s x c0 (by omega) i1 10 (Nat.le_refl _) T hT).trans (gi_10 s x c0 T n), ?_⟩
      dsimp only
      rw [i2]
      unfold moS
      by_cases hp : pcN (moN (tD s x c0) n) < pcN n
      · rw [if_pos hp, if_pos ⟨hz, hp⟩]
      · rw [if_neg hp, if_neg (fun z => hp z.2)]
end RP
