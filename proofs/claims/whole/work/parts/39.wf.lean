/-! WHAT A STREET ALWAYS IS: hard by 99 at most, three cracks at most, scores of one at least that don't grow in all -/
def sumN (f : Nat → Nat) : Nat → Nat
  | 0 => 0
  | n + 1 => sumN f n + f n
theorem sumN_congr {f g : Nat → Nat} : ∀ n, (∀ k, k < n → f k = g k) → sumN f n = sumN g n
  | 0, _ => rfl
  | n + 1, h => by
    unfold sumN
    rw [sumN_congr n (fun k hk => h k (by omega)), h n (by omega)]
theorem sumN_upd {f g : Nat → Nat} {k : Nat} (hg : ∀ i, i ≠ k → g i = f i) : ∀ n, k < n → sumN g n + f k = sumN f n + g k
  | 0, h => by omega
  | n + 1, h => by
    unfold sumN
    by_cases e : k = n
    · subst e
      rw [sumN_congr k (fun i hi => hg i (by omega))]
      omega
    · have := sumN_upd hg n (by omega)
      rw [hg n (by omega)]
      omega
theorem sumN_ge {f : Nat → Nat} {k : Nat} : ∀ n, k < n → f k ≤ sumN f n
  | 0, h => by omega
  | n + 1, h => by
    unfold sumN
    by_cases e : k = n
    · subst e; omega
    · have := sumN_ge (f := f) n (show k < n by omega)
      omega
/-- what an unbroken one has -/
def liv (c v : Nat → Nat) (k : Nat) : Nat := if c k < 3 then v k else 0
def WFs (M : Nat) (s : aStr) : Prop := ∃ (h c v : Nat → Nat) (d : Nat), (∀ k, k < 10 → sH s k = nI (h k) ∧ h k ≤ 99 ∧ sC s k = nI (c k) ∧ c k ≤ 3 ∧ (c k < 3 → sS s k = nI (v k) ∧ 1 ≤ v k)) ∧ sD s = nI d ∧ d ≤ 99 ∧ sumN (liv c v) 10 ≤ M
def upN (f : Nat → Nat) (k x : Nat) : Nat → Nat := fun i => if i = k then x else f i
theorem upN_s {f : Nat → Nat} {k x : Nat} : upN f k x k = x := by simp [upN]
theorem upN_n {f : Nat → Nat} {k x i : Nat} (h : i ≠ k) : upN f k x i = f i := by simp [upN, h]
theorem WFs.mono {M M' : Nat} {s : aStr} (h : WFs M s) (hM : M ≤ M') : WFs M' s := by
  obtain ⟨h0, c, v, d, h1, h2, h3, h4⟩ := h
  exact ⟨h0, c, v, d, h1, h2, h3, Nat.le_trans h4 hM⟩
theorem WFs.hard {M k : Nat} {s : aStr} (h : WFs M s) (hk : k < 10) : sH s k ≤ 99 := by
  obtain ⟨h0, c, v, d, h1, -⟩ := h
  rw [(h1 k hk).1]
  exact nI_le (b := 99) (h1 k hk).2.1 (by decide)
theorem WFs.day {M : Nat} {s : aStr} (h : WFs M s) : sD s ≤ 99 := by
  obtain ⟨h0, c, v, d, -, h2, h3, -⟩ := h
  rw [h2]
  exact nI_le (b := 99) h3 (by decide)
theorem WFs.crack {M k : Nat} {s : aStr} (h : WFs M s) (hk : k < 10) : ∃ c, c < 4 ∧ sC s k = nI c := by
  obtain ⟨h0, c, v, d, h1, -⟩ := h
  exact ⟨c k, by have := (h1 k hk).2.2.2.1; omega, (h1 k hk).2.2.1⟩
theorem brk3 {c : Nat} (h : c ≤ 3) : nI c = 3 ↔ ¬ c < 3 := by
  rw [nIk3 (by omega)]
  omega
theorem WFs.score {M k : Nat} {s : aStr} (h : WFs M s) (hk : k < 10) (hb : ¬ sC s k = 3) : ∃ v, 1 ≤ v ∧ v ≤ M ∧ sS s k = nI v := by
  obtain ⟨h0, c, v, d, h1, -, -, h4⟩ := h
  obtain ⟨-, -, e3, e4, e5⟩ := h1 k hk
  rw [e3, brk3 e4] at hb
  have hc : c k < 3 := Classical.byContradiction hb
  have := sumN_ge (f := liv c v) 10 hk
  unfold liv at this
  rw [if_pos hc] at this
  exact ⟨v k, (e5 hc).2, Nat.le_trans this h4, (e5 hc).1⟩
theorem upd_at {f : Nat → Int32} {k : Nat} {x : Int32} : upd f k x k = x := by simp [upd]
theorem upd_ne {f : Nat → Int32} {k i : Nat} {x : Int32} (h : i ≠ k) : upd f k x i = f i := by simp [upd, h]
/-- one more crack, for an unbroken one; if it breaks nobody has its score yet -/
theorem wf_hurt {M k : Nat} {s : aStr} (h : WFs M s) (hk : k < 10) (hb : ¬ sC s k = 3) : WFs M (hurt s k) := by
  obtain ⟨h0, c, v, d, h1, h2, h3, h4⟩ := h
  obtain ⟨-, -, e3, e4, e5⟩ := h1 k hk
  rw [e3, brk3 e4] at hb
  have hc : c k < 3 := Classical.byContradiction hb
  refine ⟨h0, upN c k (c k + 1), v, d, fun i hi => ?_, h2, h3, ?_⟩
  · obtain ⟨a1, a2, a3, a4, a5⟩ := h1 i hi
    by_cases e : i = k
    · subst e
      refine ⟨a1, a2, ?_, by rw [upN_s]; omega, fun _ => a5 hc⟩
      show upd (sC s) i (sC s i + 1) i = _
      rw [upd_at, upN_s, a3, nI_1]
    · refine ⟨a1, a2, ?_, by rw [upN_n e]; exact a4, fun z => a5 (by rw [upN_n e] at z; exact z)⟩
      show upd (sC s) k (sC s k + 1) i = _
      rw [upd_ne e, upN_n e]
      exact a3
  · have := sumN_upd (f := liv c v) (g := liv (upN c k (c k + 1)) v) (k := k) (fun i hi => by unfold liv; rw [upN_n hi]) 10 hk
    have l1 : liv c v k = v k := by unfold liv; rw [if_pos hc]
    have l2 : liv (upN c k (c k + 1)) v k ≤ v k := by
      unfold liv
      split <;> omega
    omega
/-- of two unbroken ones one breaks, and the other one has its score too -/
theorem wf_eat {M w k : Nat} {s : aStr} (h : WFs M s) (hk : k < 10) (hw : w < 10) (hne : w ≠ k) (hb : ¬ sC s k = 3) (hbw : ¬ sC s w = 3) (h3 : sC (hurt s k) k = 3) : WFs M (eat (hurt s k) w k) := by
  obtain ⟨h0, c, v, d, h1, h2, h3', h4⟩ := h
  obtain ⟨-, -, e3, e4, e5⟩ := h1 k hk
  obtain ⟨-, -, f3, f4, f5⟩ := h1 w hw
  rw [e3, brk3 e4] at hb
  rw [f3, brk3 f4] at hbw
  have hc : c k < 3 := Classical.byContradiction hb
  have hcw : c w < 3 := Classical.byContradiction hbw
  have hck : c k + 1 = 3 := by
    have e : sC (hurt s k) k = nI (c k + 1) := by
      show upd (sC s) k (sC s k + 1) k = _
      rw [upd_at, e3, nI_1]
    rw [e] at h3
    exact (nIk3 (by omega)).mp h3
  refine ⟨h0, upN c k (c k + 1), upN v w (v w + v k), d, fun i hi => ?_, h2, h3', ?_⟩
  · obtain ⟨a1, a2, a3, a4, a5⟩ := h1 i hi
    have hC : sC (eat (hurt s k) w k) i = nI (upN c k (c k + 1) i) := by
      show upd (sC s) k (sC s k + 1) i = _
      by_cases e : i = k
      · subst e
        rw [upd_at, upN_s, a3, nI_1]
      · rw [upd_ne e, upN_n e]
        exact a3
    refine ⟨a1, a2, hC, ?_, fun z => ?_⟩
    · by_cases e : i = k
      · subst e; rw [upN_s]; omega
      · rw [upN_n e]; exact a4
    · have hik : i ≠ k := fun e => by subst e; rw [upN_s] at z; omega
      rw [upN_n hik] at z
      show upd (sS s) w (sS s w + sS s k) i = _ ∧ _
      by_cases e : i = w
      · subst e
        rw [upd_at, upN_s, (f5 hcw).1, (e5 hc).1, nI_add]
        exact ⟨rfl, by have := (f5 hcw).2; omega⟩
      · rw [upd_ne e, upN_n e]
        exact a5 z
  · have u1 := sumN_upd (f := liv c v) (g := liv (upN c k (c k + 1)) v) (k := k) (fun i hi => by unfold liv; rw [upN_n hi]) 10 hk
    have u2 := sumN_upd (f := liv (upN c k (c k + 1)) v) (g := liv (upN c k (c k + 1)) (upN v w (v w + v k))) (k := w) (fun i hi => by unfold liv; rw [upN_n (f := v) hi]) 10 hw
    have l1 : liv c v k = v k := by unfold liv; rw [if_pos hc]
    have l2 : liv (upN c k (c k + 1)) v k = 0 := by unfold liv; rw [upN_s, if_neg (by omega)]
    have l3 : liv (upN c k (c k + 1)) v w = v w := by unfold liv; rw [upN_n hne, if_pos hcw]
    have l4 : liv (upN c k (c k + 1)) (upN v w (v w + v k)) w = v w + v k := by unfold liv; rw [upN_n hne, if_pos hcw, upN_s]
    omega
theorem wf_uH {M k x : Nat} {s : aStr} (h : WFs M s) (hx : x ≤ 99) : WFs M (uH s k (nI x)) := by
  obtain ⟨h0, c, v, d, h1, h2, h3, h4⟩ := h
  refine ⟨upN h0 k x, c, v, d, fun i hi => ?_, h2, h3, h4⟩
  obtain ⟨a1, a2, a3⟩ := h1 i hi
  by_cases e : i = k
  · subst e
    refine ⟨?_, by rw [upN_s]; exact hx, a3⟩
    show upd (sH s) i (nI x) i = _
    rw [upd_at, upN_s]
  · refine ⟨?_, by rw [upN_n e]; exact a2, a3⟩
    show upd (sH s) k (nI x) i = _
    rw [upd_ne e, upN_n e]
    exact a1
theorem minV_nI {x : Nat} (h : x ≤ 200) : minV 99 (nI x) = nI (if x < 99 then x else 99) := by
  unfold minV
  by_cases h1 : x < 99
  · rw [if_pos (show nI x < 99 from nI_lt (b := 99) h1 (by decide)), if_pos h1]
  · rw [if_neg (show ¬ nI x < 99 from nI_nlt (b := 99) (by omega) (by omega)), if_neg h1]
    rfl
theorem wf_bake {M k : Nat} {s : aStr} (h : WFs M s) (hk : k < 10) (hb : ¬ sC s k = 3) : WFs M (bakeS s k).1 := by
  obtain ⟨x, hx, e⟩ : ∃ x, x ≤ 99 ∧ minV 99 (sH s k + 10) = nI x := by
    obtain ⟨h0, c, v, d, h1, -⟩ := h
    rw [(h1 k hk).1, show (10 : Int32) = nI 10 from rfl, nI_add, minV_nI (by have := (h1 k hk).2.1; omega)]
    exact ⟨_, by split <;> omega, rfl⟩
  show WFs M (uH (if 60 ≤ sH s k then hurt s k else s) k (minV 99 (sH s k + 10)))
  rw [e]
  split
  · exact wf_uH (wf_hurt h hk hb) hx
  · exact wf_uH h hx
theorem dh_nI {c : Int32} {x : Nat} (h : x ≤ 99) : ∃ y, y ≤ 99 ∧ dh c (nI x) = nI y := by
  unfold dh
  split
  · exact ⟨x, h, rfl⟩
  · by_cases h2 : 99 ≤ nI x
    · rw [if_pos h2]
      exact ⟨x, h, rfl⟩
    · rw [if_neg h2, nI_1]
      refine ⟨x + 1, ?_, rfl⟩
      have : ¬ 99 ≤ x := fun z => h2 (nI_le (a := 99) z (by omega))
      omega
theorem wf_day {M : Nat} {s : aStr} (h : WFs M s) (hd : sD s < 99) : WFs M (dayS s) := by
  obtain ⟨h0, c, v, d, h1, h2, h3, h4⟩ := h
  have hd2 : d < 99 := by
    rw [h2] at hd
    exact (nI_ltI (b := 99) (by omega) (by decide)).mp hd
  refine ⟨fun k => if hk : k < 10 then Classical.choose (dh_nI (c := sC s k) (h1 k hk).2.1) else 0, c, v, d + 1, fun i hi => ?_, ?_, by omega, h4⟩
  · obtain ⟨a1, a2, a3⟩ := h1 i hi
    have hs := Classical.choose_spec (dh_nI (c := sC s i) (h1 i hi).2.1)
    refine ⟨?_, ?_, a3⟩
    · show (if i < 10 then dh (sC s i) (sH s i) else sH s i) = _
      dsimp only
      rw [if_pos hi, dif_pos hi]
      exact (congrArg (dh (sC s i)) a1).trans hs.2
    · dsimp only
      rw [dif_pos hi]
      exact hs.1
  · show sD s + 1 = _
    rw [h2, nI_1]
theorem wf_uO {M k : Nat} {x : Int32} {s : aStr} (h : WFs M s) : WFs M (uO s k x) := h
/-- acts that can be -/
theorem wf_act {M kd a b : Nat} {s : aStr} (h : WFs M s) (hk : kd < 4) (ha : a < 10) (hb : kd = 0 → b < 10) (hw : whyS s kd a b = 0) : WFs M (actS s kd a b).1 ∧ (kd = 1 → ¬ sC s a = 3) := by
  rcases (show kd = 0 ∨ kd = 1 ∨ kd = 2 ∨ kd = 3 by omega) with rfl | rfl | rfl | rfl
  · refine ⟨?_, fun z => by cases z⟩
    have hb := hb rfl
    rw [whyS, if_neg (by decide)] at hw
    by_cases h1 : sC s a = 3 ∨ (0 = 0 ∧ sC s b = 3)
    · rw [if_pos h1] at hw; exact absurd hw (by decide)
    · rw [if_neg h1, if_pos rfl] at hw
      by_cases h2 : sO s a = sO s b
      · rw [if_pos h2] at hw; exact absurd hw (by decide)
      · have hab : a ≠ b := fun e => h2 (by rw [e])
        have qa : ¬ sC s a = 3 := fun z => h1 (Or.inl z)
        have qb : ¬ sC s b = 3 := fun z => h1 (Or.inr ⟨rfl, z⟩)
        show WFs M (strikeS s a b).1
        by_cases hf : forceV s b (sC s b) ≤ forceV s a (sC s a)
        · rw [strike_hit (hit := b) (oth := a) (if_pos hf) (if_pos hf)]
          split
          · next h3 => exact wf_eat h hb ha hab qb qa h3
          · exact wf_hurt h hb qb
        · rw [strike_hit (hit := a) (oth := b) (if_neg hf) (if_neg hf)]
          split
          · next h3 => exact wf_eat h ha hb (Ne.symm hab) qa qb h3
          · exact wf_hurt h ha qa
  · rw [whyS, if_neg (by decide)] at hw
    by_cases h1 : sC s a = 3 ∨ (1 = 0 ∧ sC s b = 3)
    · rw [if_pos h1] at hw; exact absurd hw (by decide)
    · have qa : ¬ sC s a = 3 := fun z => h1 (Or.inl z)
      exact ⟨wf_bake h ha qa, fun _ => qa⟩
  · exact ⟨wf_uO h, fun z => by cases z⟩
  · refine ⟨?_, fun z => by cases z⟩
    rw [whyS, if_pos rfl] at hw
    by_cases h1 : sD s < 99
    · exact wf_day h h1
    · rw [if_neg h1] at hw; exact absurd hw (by decide)
theorem wf_year {M x : Nat} {s : aStr} (h : WFs M s) : ∀ n, WFs M (yearN n s x).1
  | 0 => h
  | n + 1 => by
    have ih := wf_year (x := x) h n
    show WFs M (yStep (yearN n s x)).1
    unfold yStep
    dsimp only
    split
    · next hw => exact (wf_act ih (kindN_lt _) (Nat.mod_lt _ (by decide)) (fun _ => yB_lt _) hw).1
    · exact ih
theorem wf_set {M k hd c : Nat} {o : Int32} {s : aStr} (h : WFs M s) (hk : k < 10) (h1 : hd ≤ 99) (h2 : c ≤ 2) : WFs (M + 1) (setS s k (nI hd) (nI c) o) := by
  obtain ⟨h0, cc, v, d, g1, g2, g3, g4⟩ := h
  refine ⟨upN h0 k hd, upN cc k c, upN v k 1, d, fun i hi => ?_, g2, g3, ?_⟩
  · obtain ⟨a1, a2, a3, a4, a5⟩ := g1 i hi
    by_cases e : i = k
    · subst e
      rw [upN_s, upN_s, upN_s]
      refine ⟨?_, h1, ?_, by omega, fun _ => ⟨?_, by omega⟩⟩
      · show upd (sH s) i (nI hd) i = _
        rw [upd_at]
      · show upd (sC s) i (nI c) i = _
        rw [upd_at]
      · show upd (sS s) i 1 i = _
        rw [upd_at]
        rfl
    · rw [upN_n e, upN_n e, upN_n e]
      refine ⟨?_, a2, ?_, a4, fun z => ?_⟩
      · show upd (sH s) k (nI hd) i = _
        rw [upd_ne e]; exact a1
      · show upd (sC s) k (nI c) i = _
        rw [upd_ne e]; exact a3
      · show upd (sS s) k 1 i = _ ∧ _
        rw [upd_ne e]; exact a5 z
  · have := sumN_upd (f := liv cc v) (g := liv (upN cc k c) (upN v k 1)) (k := k) (fun i hi => by unfold liv; rw [upN_n hi, upN_n hi]) 10 hk
    have l : liv (upN cc k c) (upN v k 1) k = 1 := by unfold liv; rw [upN_s, upN_s, if_pos (by omega)]
    omega
