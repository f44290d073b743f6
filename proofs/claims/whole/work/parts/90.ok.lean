/-! WHAT HOLDS BETWEEN CALLS -/
def OK (k : Nat) (A : aA) : Prop := WFs (10 + k) (aS A) ∧ aN A ≤ 60 ∧ WT (aT A) ∧ (∀ q, aI0 A = some q → WFs (10 + k) q.1 ∧ WT q.2) ∧ ∀ q, aI1 A = some q → WFs (10 + k) q.1 ∧ WT q.2
theorem OK.up {k : Nat} {A : aA} (h : OK k A) : OK (k + 1) A := ⟨h.1.mono (by omega), h.2.1, h.2.2.1, fun q hq => ⟨(h.2.2.2.1 q hq).1.mono (by omega), (h.2.2.2.1 q hq).2⟩, fun q hq => ⟨(h.2.2.2.2 q hq).1.mono (by omega), (h.2.2.2.2 q hq).2⟩⟩
theorem OK.eq {k : Nat} {A A' : aA} (h : OK k A) (e : A' = A) : OK (k + 1) A' := e ▸ h.up
theorem ok_fault {k : Nat} {A : aA} (h : OK k A) : OK (k + 1) (r_fault A).2 := h.up
theorem ok_judge {k : Nat} {A : aA} {w : Int32} (h : OK k A) : OK (k + 1) (r_judge A w).2 := h.eq (by unfold r_judge; repeat' (first | rfl | split))
theorem ok_behind {k : Nat} {A : aA} {x w : Int32} (h : OK k A) : OK (k + 1) (r_behind A x w).2 := h.eq (by unfold r_behind; repeat' (first | rfl | split))
theorem ok_child {k : Nat} {A : aA} {x w : Int32} (h : OK k A) : OK (k + 1) (r_child A x w).2 := h.eq (by unfold r_child; repeat' (first | rfl | split))
theorem ok_street {k : Nat} {A : aA} {w : Int32} (h : OK k A) : OK (k + 1) (r_street A w).2 := h.eq (by unfold r_street; repeat' (first | rfl | split))
theorem ok_first {k : Nat} {A : aA} {w : Int32} (h : OK k A) : OK (k + 1) (r_first A w).2 := h.eq (by unfold r_first; repeat' (first | rfl | split))
theorem ok_fight {k : Nat} {A : aA} {x y w : Int32} (h : OK k A) : OK (k + 1) (r_fight A x y w).2 := h.eq (by unfold r_fight; repeat' (first | rfl | split))
theorem ok_round {k : Nat} {A : aA} {x w : Int32} (h : OK k A) : OK (k + 1) (r_round A x w).2 := h.eq (by unfold r_round; repeat' (first | rfl | split))
theorem ok_cup {k : Nat} {A : aA} {x : Int32} (h : OK k A) : OK (k + 1) (r_cup A x).2 := h.eq (by unfold r_cup; repeat' (first | rfl | split))
theorem ok_orders {k : Nat} {A : aA} {x : Int32} (h : OK k A) : OK (k + 1) (r_orders A x).2 := h.up
theorem ok_ask {k : Nat} {A : aA} {w : Int32} (h : OK k A) : OK (k + 1) (r_ask A w).2 := h.eq (by unfold r_ask; repeat' (first | rfl | split))
theorem ok_row {k : Nat} {A : aA} {x w : Int32} (h : OK k A) : OK (k + 1) (r_row A x w).2 := h.eq (by unfold r_row; repeat' (first | rfl | split))
theorem ok_lot {k : Nat} {A : aA} {n x j w v : Int32} (h : OK k A) : OK (k + 1) (r_lot A n x j w v).2 := h.eq (by unfold r_lot; repeat' (first | rfl | split))
theorem ok_year {k : Nat} {A : aA} {x n w : Int32} (h : OK k A) : OK (k + 1) (r_year A x n w).2 := h.eq (by unfold r_year; repeat' (first | rfl | split))
theorem ok_told {k : Nat} {A : aA} {w : Int32} (h : OK k A) : OK (k + 1) (r_told A w).2 := h.up
theorem ok_nut {k : Nat} {A : aA} {x hd c o : Int32} (h : OK k A) : OK (k + 1) (r_nut A x hd c o).2 := by
  unfold r_nut
  split
  · exact h.up
  · next h1 =>
    split
    · exact h.up
    · next h2 =>
      have x1 : 0 ≤ x ∧ x ≤ 9 := Decidable.not_not.mp (fun z => h1 (Or.inl z))
      have hh : 1 ≤ hd ∧ hd ≤ 99 := Decidable.not_not.mp (fun z => h2 (Or.inl z))
      have cc : 0 ≤ c ∧ c ≤ 2 := Decidable.not_not.mp (fun z => h2 (Or.inr z))
      obtain ⟨a, ha, ea⟩ := i_rng (a := 0) (b := 9) rfl rfl (by decide) (by decide) x1.1 x1.2
      obtain ⟨b, hb, eb⟩ := i_rng (a := 1) (b := 99) rfl rfl (by decide) (by decide) hh.1 hh.2
      obtain ⟨d, hd2, ed⟩ := i_rng (a := 0) (b := 2) rfl rfl (by decide) (by decide) cc.1 cc.2
      have hu := h.up
      refine ⟨?_, hu.2.1, hu.2.2.1, hu.2.2.2.1, hu.2.2.2.2⟩
      show WFs (10 + k + 1) (setS (aS A) (ix x) hd c o)
      rw [ea, eb, ed, ix_nI (by omega)]
      exact wf_set h.1 (by omega) (by omega) (by omega)
theorem ok_say {k : Nat} {A : aA} {x : Int32} (h : OK k A) : OK (k + 1) (r_say A x).2 := by
  unfold r_say
  split
  · exact h.up
  · split
    · next h2 => exact ⟨h.up.1, (show aN A + 1 ≤ 60 by omega), h.up.2.2.1, h.up.2.2.2.1, h.up.2.2.2.2⟩
    · exact h.up
theorem ok_wipe {k : Nat} {A : aA} (h : OK k A) : OK (k + 1) (r_wipe A).2 := ⟨h.up.1, Nat.zero_le _, h.up.2.2.1, h.up.2.2.2.1, h.up.2.2.2.2⟩
theorem wf_tell {M : Nat} : ∀ (l : List aAct) (T : aTl) (i : Nat), GI M T i → (∀ x, x ∈ l → okA x) → i + l.length ≤ 60 → WFs M (tellL T l).1
  | [], _, _, h, _, _ => h.2.2.2.2.2
  | x :: l, T, i, h, hx, hl => by
    rw [List.length_cons] at hl
    rw [tellL]
    split
    · next hb => exact wf_tell l _ (i + 1) (gi_s h hb (hx x (List.mem_cons_self ..)) (by omega)) (fun y hy => hx y (List.mem_cons_of_mem _ hy)) (by omega)
    · exact h.2.2.2.2.2
theorem wf_dayA {M : Nat} {A : aA} {T : aTl} (h60 : aN A ≤ 60) (hW : WFs M (aS A)) (e : dayA A = some T) : WFs M T.1 := by
  unfold dayA at e
  cases hp : parseA (aG A) (aN A) 60 0 with
  | none => rw [hp] at e; cases e
  | some l =>
    rw [hp] at e
    cases e
    obtain ⟨hl, hok⟩ := parse_ok h60 _ _ _ hp
    exact wf_tell l _ 0 (gi_0 hW) hok (by omega)
theorem ok_done {k : Nat} {A : aA} (h : OK k A) : OK (k + 1) (r_done A).2 := by
  unfold r_done
  split
  · exact h.up
  · next T e =>
    split
    · exact ⟨(wf_dayA h.2.1 h.1 e).mono (by omega), Nat.zero_le _, h.up.2.2.1, h.up.2.2.2.1, h.up.2.2.2.2⟩
    · exact h.up
theorem ok_forget {k : Nat} {A : aA} (h : OK k A) : OK (k + 1) (r_forget A).2 := ⟨h.up.1, h.2.1, ⟨rfl, Nat.zero_le _, fun j hj => absurd hj (Nat.not_lt_zero _)⟩, h.up.2.2.2.1, h.up.2.2.2.2⟩
theorem wt_add {T : aSg} {n a b : Nat} (h : WT T) (e : T.1 = nI n) (hn : n < 8) (ha : a < 5) (hb : b < 5) (hab : a ≠ b) : WT (T.1 + 1, upd T.2.1 (ix T.1) (nI a), upd T.2.2 (ix T.1) (nI b)) := by
  obtain ⟨h1, h2, h3⟩ := h
  have en : ix T.1 = n := by rw [e]; exact ix_nI (by omega)
  rw [en] at h3 ⊢
  have e1 : T.1 + 1 = nI (n + 1) := by rw [e]; exact nI_1 n
  have e2 : ix (T.1 + 1) = n + 1 := by rw [e1]; exact ix_nI (by omega)
  refine ⟨?_, ?_, fun k hk => ?_⟩
  · show T.1 + 1 = nI (ix (T.1 + 1))
    rw [e2]; exact e1
  · show ix (T.1 + 1) ≤ 8
    omega
  · have hk : k < n + 1 := e2 ▸ hk
    show upd T.2.1 n (nI a) k = nI (ix (upd T.2.1 n (nI a) k)) ∧ upd T.2.2 n (nI b) k = nI (ix (upd T.2.2 n (nI b) k)) ∧ ix (upd T.2.1 n (nI a) k) < 5 ∧ ix (upd T.2.2 n (nI b) k) < 5 ∧ ix (upd T.2.1 n (nI a) k) ≠ ix (upd T.2.2 n (nI b) k)
    by_cases z : k = n
    · subst z
      rw [upd_at, upd_at, ix_nI (by omega), ix_nI (by omega)]
      exact ⟨rfl, rfl, ha, hb, hab⟩
    · rw [upd_ne z, upd_ne z]
      exact h3 k (by omega)
theorem ok_harder {k : Nat} {A : aA} {x y : Int32} (h : OK k A) : OK (k + 1) (r_harder A x y).2 := by
  unfold r_harder
  split
  · exact h.up
  · next h1 =>
    split
    · next h2 =>
      have x1 : 0 ≤ x ∧ x ≤ 4 := Decidable.not_not.mp (fun z => h1 (Or.inl z))
      have y1 : 0 ≤ y ∧ y ≤ 4 := Decidable.not_not.mp (fun z => h1 (Or.inr (Or.inl z)))
      have xy : ¬ x = y := fun z => h1 (Or.inr (Or.inr z))
      obtain ⟨a, ha, ea⟩ := i_rng (a := 0) (b := 4) rfl rfl (by decide) (by decide) x1.1 x1.2
      obtain ⟨b, hb, eb⟩ := i_rng (a := 0) (b := 4) rfl rfl (by decide) (by decide) y1.1 y1.2
      have hw := h.2.2.1
      have hn : ix (aT A).1 < 8 := by
        rw [hw.1] at h2
        exact (nI_ltI (b := 8) (by have := hw.2.1; omega) (by decide)).mp h2
      subst ea eb
      refine ⟨h.up.1, h.2.1, ?_, h.up.2.2.2.1, h.up.2.2.2.2⟩
      exact wt_add hw hw.1 hn (by omega) (by omega) (fun z => xy (by rw [z]))
    · exact h.up
theorem ok_image {k : Nat} {A : aA} {w : Int32} (h : OK k A) : OK (k + 1) (r_image A w).2 := by
  have hq : ∀ q, some (aS A, aT A) = some q → WFs (10 + (k + 1)) q.1 ∧ WT q.2 := fun q e => by
    cases e
    exact ⟨h.up.1, h.2.2.1⟩
  unfold r_image
  split
  · exact h.up
  · show OK (k + 1) (if w = 0 then _ else _)
    split
    · exact ⟨h.up.1, h.2.1, h.2.2.1, hq, h.up.2.2.2.2⟩
    · exact ⟨h.up.1, h.2.1, h.2.2.1, h.up.2.2.2.1, hq⟩
theorem ok_restore {k : Nat} {A : aA} {w : Int32} (h : OK k A) : OK (k + 1) (r_restore A w).2 := by
  unfold r_restore
  split
  · exact h.up
  · have hq : ∀ q, (if w = 0 then aI0 A else aI1 A) = some q → WFs (10 + (k + 1)) q.1 ∧ WT q.2 := fun q e => by
      by_cases z : w = 0
      · rw [if_pos z] at e; exact h.up.2.2.2.1 q e
      · rw [if_neg z] at e; exact h.up.2.2.2.2 q e
    split
    · exact h.up
    · next q e => exact ⟨(hq q e).1, h.2.1, (hq q e).2, h.up.2.2.2.1, h.up.2.2.2.2⟩
theorem MI.fr {m m' : aMem} {A : aA} (hM : MI m A) (f : Fr 1 53 m m') : MI m' A := by
  obtain ⟨h1, h2, h3, h4, h5, h6⟩ := hM
  have e71 : m'.1 71 = m.1 71 := f.1 71 (by omega)
  have e72 : m'.1 72 = m.1 72 := f.1 72 (by omega)
  have im : ∀ k i, imM m k i → imM m' k i := fun k i hi => by
    cases i with
    | none => exact (congrFun e72 k).trans hi
    | some q =>
      refine ⟨(congrFun e72 k).trans hi.1, ?_, ?_⟩
      · rw [← hi.2.1]; unfold stK; rw [e71]
      · rw [← hi.2.2]; unfold sgK; rw [e71]
  refine ⟨(f.st (p := 53) (by omega)).trans h1, by rw [f.1 53 (by omega)]; exact h2, by rw [f.1 61 (by omega)]; exact h3, ?_, im 0 _ h5, im 1 _ h6⟩
  rw [← h4]; unfold sgM
  rw [f.1 53 (by omega), f.1 59 (by omega), f.1 60 (by omega)]
/-! the start -/
def A0 (m : aMem) : aA := (stAt m 2, (0, fun _ => 0), sgAt m 24, none, none)
theorem ini_all {m : aMem} (h : am_iniM m = true) : CI m (A0 m) ∧ MI m (A0 m) ∧ OK 0 (A0 m) := by
  unfold am_iniM at h
  simp only [Bool.and_eq_true, decide_eq_true_eq, List.all_eq_true, List.mem_range] at h
  obtain ⟨⟨⟨⟨⟨⟨⟨⟨⟨⟨⟨⟨⟨h10, d2⟩, d53⟩, p8⟩, p53⟩, s24⟩, s53⟩, h8⟩, i33⟩, i43⟩, k0⟩, k1⟩, r1⟩, r0⟩ := h
  have hs : stAt m 53 = stAt m 2 := by
    unfold stAt
    rw [d2, d53]
    have g := fun k hk => h10 k hk
    rw [cut_ext (f := m.1 (53 + 1)) (g := m.1 (2 + 1)) (fun k hk => by have := h10 k hk; rw [this.1.1.1.1.2, this.1.1.1.1.1.1.1.1.1])]
    rw [cut_ext (f := m.1 (53 + 2)) (g := m.1 (2 + 2)) (fun k hk => by have := h10 k hk; rw [this.1.1.1.2, this.1.1.1.1.1.1.1.1.2])]
    rw [cut_ext (f := m.1 (53 + 3)) (g := m.1 (2 + 3)) (fun k hk => by have := h10 k hk; rw [this.1.1.2, this.1.1.1.1.1.1.1.2])]
    rw [cut_ext (f := m.1 (53 + 4)) (g := m.1 (2 + 4)) (fun k hk => by have := h10 k hk; rw [this.1.2, this.1.1.1.1.1.1.2])]
    rw [cut_ext (f := m.1 (53 + 5)) (g := m.1 (2 + 5)) (fun k hk => by have := h10 k hk; rw [this.2, this.1.1.1.1.1.2])]
  have ht : sgM m = sgAt m 24 := by
    unfold sgM sgAt
    rw [s24, s53]
    rw [cut_ext (f := m.1 59) (g := m.1 (24 + 1)) (fun k hk => by have := h8 k hk; rw [this.1.2, this.1.1.1])]
    rw [cut_ext (f := m.1 60) (g := m.1 (24 + 2)) (fun k hk => by have := h8 k hk; rw [this.2, this.1.1.2])]
  refine ⟨⟨rfl, p8, sg_0, rfl, i33, i43, 1, Nat.le_refl _, by decide, r1, fun j hj => ?_⟩, ⟨hs, p53, sg_0, ht, k0, k1⟩, ?_, Nat.zero_le _, ?_, fun q e => (by cases e), fun q e => (by cases e)⟩
  · have : j = 0 := by omega
    subst this
    exact r0
  · refine ⟨fun k => 10 * k + 5, fun _ => 0, fun _ => 1, 0, fun k hk => ?_, ?_, by decide, by decide⟩
    · have := h10 k hk
      refine ⟨?_, by show 10 * k + 5 ≤ 99; omega, ?_, Nat.zero_le _, fun _ => ⟨?_, Nat.le_refl _⟩⟩
      · show cut 10 (m.1 (2 + 1)) k = _
        rw [cut_at hk]; exact this.1.1.1.1.1.1.1.1.1
      · show cut 10 (m.1 (2 + 2)) k = _
        rw [cut_at hk]; exact this.1.1.1.1.1.1.1.1.2
      · show cut 10 (m.1 (2 + 3)) k = _
        rw [cut_at hk]; exact this.1.1.1.1.1.1.1.2
    · exact d2
  · refine ⟨?_, ?_, fun k hk => ?_⟩
    · show m.1 24 2 = nI (ix (m.1 24 2))
      rw [s24]; rfl
    · show ix (m.1 24 2) ≤ 8
      rw [s24]; decide
    · have hk : k < ix (m.1 24 2) := hk
      rw [s24] at hk
      exact absurd hk (Nat.not_lt_zero _)
/-! the script -/
theorem nI_sur (x : Int32) : x = nI x.toBitVec.toNat := by
  apply Int32.toBitVec_inj.mp
  show x.toBitVec = BitVec.ofNat 32 x.toBitVec.toNat
  simp
theorem and_31 (x : Int32) : ∃ t, t < 32 ∧ x &&& 31 = nI t := by
  refine ⟨x.toBitVec.toNat &&& 31, Nat.lt_of_le_of_lt Nat.and_le_right (by decide), ?_⟩
  rw [← nI_and, ← nI_sur]
  rfl
theorem lw_6 {L k : Nat} (hL : L ≤ 3072) (hk : k ≤ 1000) (h : ¬ Int32.ofNat L - 6 < nI (6 * k)) : 6 * k + 6 ≤ L := by
  by_cases z : 6 ≤ L
  · have e : Int32.ofNat L - 6 = nI (L - 6) := by
      have := i_sub (k := L - 6) (a := 6)
      rw [show 6 + (L - 6) = L by omega] at this
      exact this
    rw [e, nI_ltI (by omega) (by omega)] at h
    omega
  · exfalso
    apply h
    have e : ∀ L, L < 6 → Int32.ofNat L - 6 < 0 := by decide
    exact Int32.lt_of_lt_of_le (e L (by omega)) (nI_pos' (by omega))
