/-! FIGHTS -/
def ftN (s : aStr) (a b : Nat) : Nat → Nat → Nat → Nat → Nat × Nat × Nat
  | 0, k, c1, c2 => (c1, c2, k)
  | n + 1, k, c1, c2 => if c1 < 3 ∧ c2 < 3 then (if k % 2 = 0 then (if forceV s b (nI c2) ≤ forceV s a (nI c1) then ftN s a b n (k + 1) c1 (c2 + 1) else ftN s a b n (k + 1) (c1 + 1) c2) else (if forceV s a (nI c1) ≤ forceV s b (nI c2) then ftN s a b n (k + 1) (c1 + 1) c2 else ftN s a b n (k + 1) c1 (c2 + 1))) else (c1, c2, k)
theorem ft_end {s : aStr} {a b n k c1 c2 : Nat} (h : ¬ (c1 < 3 ∧ c2 < 3)) : ftN s a b n k c1 c2 = (c1, c2, k) := by
  cases n with
  | zero => rfl
  | succ n => rw [ftN, if_neg h]
/-- how a fight ends: one is broken, and the blows are the cracks that came -/
theorem ft_out {s : aStr} {a b : Nat} : ∀ n k c1 c2, c1 ≤ 3 → c2 ≤ 3 → c1 + c2 ≤ 5 → 5 ≤ c1 + c2 + n → (((ftN s a b n k c1 c2).1 = 3 ∧ (ftN s a b n k c1 c2).2.1 < 3) ∨ ((ftN s a b n k c1 c2).1 < 3 ∧ (ftN s a b n k c1 c2).2.1 = 3)) ∧ (ftN s a b n k c1 c2).2.2 + (c1 + c2) = k + ((ftN s a b n k c1 c2).1 + (ftN s a b n k c1 c2).2.1) ∧ c1 ≤ (ftN s a b n k c1 c2).1 ∧ c2 ≤ (ftN s a b n k c1 c2).2.1 := by
  intro n
  induction n with
  | zero => intro k c1 c2 h1 h2 h3 h4; rw [ftN]; dsimp only; omega
  | succ n ih =>
    intro k c1 c2 h1 h2 h3 h4
    by_cases hc : c1 < 3 ∧ c2 < 3
    case neg => rw [ft_end hc]; dsimp only; omega
    rw [ftN, if_pos hc]
    have i1 := ih (k + 1) c1 (c2 + 1) (by omega) (by omega) (by omega) (by omega)
    have i2 := ih (k + 1) (c1 + 1) c2 (by omega) (by omega) (by omega) (by omega)
    repeat' split
    all_goals first | (refine ⟨i1.1, ?_⟩; have := i1.2; omega) | (refine ⟨i2.1, ?_⟩; have := i2.2; omega)
def winF (a b : Nat) (R : Nat × Nat × Nat) : Nat := if R.1 < 3 then 4 * a + R.1 else 4 * b + R.2.1
theorem ft_duel {s : aStr} {a b : Nat} : ∀ n k c1 c2, c1 < 3 → c2 < 3 → 5 ≤ c1 + c2 + n → (k % 2 = 0 → duelN s n a c1 b c2 = winF a b (ftN s a b n k c1 c2)) ∧ (¬ k % 2 = 0 → duelN s n b c2 a c1 = winF a b (ftN s a b n k c1 c2)) := by
  intro n
  induction n with
  | zero => intro k c1 c2 h1 h2 h3; omega
  | succ n ih =>
    intro k c1 c2 h1 h2 h3
    rw [ftN, if_pos ⟨h1, h2⟩, duelN, duelN]
    refine ⟨fun hk => ?_, fun hk => ?_⟩
    · rw [if_pos hk]
      have hk1 : ¬ (k + 1) % 2 = 0 := by omega
      by_cases hf : forceV s b (nI c2) ≤ forceV s a (nI c1)
      · rw [if_pos hf, if_pos hf]
        by_cases h : c2 + 1 = 3
        · rw [if_pos h, ft_end (by omega)]; unfold winF; rw [if_pos h1]
        · rw [if_neg h]; exact (ih (k + 1) c1 (c2 + 1) h1 (by omega) (by omega)).2 hk1
      · rw [if_neg hf, if_neg hf]
        by_cases h : c1 + 1 = 3
        · rw [if_pos h, ft_end (by omega)]; unfold winF; rw [if_neg (show ¬ c1 + 1 < 3 by omega)]
        · rw [if_neg h]; exact (ih (k + 1) (c1 + 1) c2 (by omega) h2 (by omega)).2 hk1
    · rw [if_neg hk]
      have hk1 : (k + 1) % 2 = 0 := by omega
      by_cases hf : forceV s a (nI c1) ≤ forceV s b (nI c2)
      · rw [if_pos hf, if_pos hf]
        by_cases h : c1 + 1 = 3
        · rw [if_pos h, ft_end (by omega)]; unfold winF; rw [if_neg (show ¬ c1 + 1 < 3 by omega)]
        · rw [if_neg h]; exact (ih (k + 1) (c1 + 1) c2 (by omega) h2 (by omega)).1 hk1
      · rw [if_neg hf, if_neg hf]
        by_cases h : c2 + 1 = 3
        · rw [if_pos h, ft_end (by omega)]; unfold winF; rw [if_pos h1]
        · rw [if_neg h]; exact (ih (k + 1) c1 (c2 + 1) h1 (by omega) (by omega)).1 hk1
def ftS (s : aStr) (a b : Nat) : Nat × Nat × Nat := ftN s a b 5 0 (ix (sC s a)) (ix (sC s b))
def r_fight (A : aA) (x y w : Int32) : Int32 × aA := if ¬ (0 ≤ x ∧ x ≤ 9) ∨ ¬ (0 ≤ y ∧ y ≤ 9) ∨ x = y then (-1, A) else if ¬ (0 ≤ w ∧ w ≤ 2) then (-2, A) else if sC (aS A) (ix x) = 3 ∨ sC (aS A) (ix y) = 3 then (-3, A) else (if w = 0 then (if (ftS (aS A) (ix x) (ix y)).1 < 3 then x else y) else if w = 1 then nI (ftS (aS A) (ix x) (ix y)).2.2 else if (ftS (aS A) (ix x) (ix y)).1 < 3 then nI (ftS (aS A) (ix x) (ix y)).1 else nI (ftS (aS A) (ix x) (ix y)).2.1, A)
section F1
variable {X : aX} {m : aMem} {A : aA} {K : Int32 → aMem → Prop}
theorem WFs.live {M k : Nat} {s : aStr} (h : WFs M s) (hk : k < 10) (hb : ¬ sC s k = 3) : ∃ c, c < 3 ∧ sC s k = nI c := by
  obtain ⟨c, hc, e⟩ := h.crack hk
  refine ⟨c, ?_, e⟩
  rcases (show c < 3 ∨ c = 3 by omega) with z | z
  · exact z
  · subst z; exact absurd e hb
def SL (m m' : aMem) : Prop := (∀ q, q ≠ 53 → m'.1 q = m.1 q) ∧ m'.2 = m.2 ∧ ∀ i, (i < 22 ∨ 24 < i) → m'.1 53 i = m.1 53 i
theorem SL.rf : SL m m := ⟨fun _ _ => rfl, rfl, fun _ _ => rfl⟩
theorem SL.w {m1 : aMem} {k : Nat} {v : Int32} (h : SL m m1) (hk : 22 ≤ k ∧ k ≤ 24) : SL m (am_wi m1.1 53 k v, m1.2) := ⟨fun q a => by show am_wi m1.1 53 k v q = _; rw [am_wi_n a]; exact h.1 q a, h.2.1, fun i hi => by show am_wi m1.1 53 k v 53 i = _; rw [am_wi_s, upd_ne (by omega)]; exact h.2.2 i hi⟩
theorem SL.kp {m' : aMem} (h : SL m m') : KP m m' := ⟨fun q hq => h.1 q (by omega), fun q _ => congrFun h.2.1 q, fun i _ hi => h.2.2 i (by omega)⟩
theorem SL.st {m' : aMem} (h : SL m m') : stAt m' 53 = stAt m 53 := by
  unfold stAt
  rw [h.2.2 5 (by decide), h.1 (53 + 1) (by decide), h.1 (53 + 2) (by decide), h.1 (53 + 3) (by decide), h.1 (53 + 4) (by decide), h.1 (53 + 5) (by decide)]
theorem SL.tr {m1 m2 : aMem} (h : SL m m1) (h' : SL m1 m2) : SL m m2 := ⟨fun q a => (h'.1 q a).trans (h.1 q a), h'.2.1.trans h.2.1, fun i a => (h'.2.2 i a).trans (h.2.2 i a)⟩
theorem d_fightOut {K : aMem → Prop} {a b e1 e2 : Nat} {R : Nat × Nat × Nat} (ha : a < 10) (hb : b < 10) (h1 : e1 < 3) (h2 : e2 < 3) (hR0 : ftN (stAt m 53) a b 5 0 e1 e2 = R) (h : ∀ m', SL m m' → m'.1 53 22 = nI R.1 → m'.1 53 23 = nI R.2.1 → m'.1 53 24 = nI R.2.2 → K m') : gCv X 144 [.ref 53, .int (nI a), .int (nI e1), .int (nI b), .int (nI e2)] m K := by
  refine g_inV rfl ?_
  have loop : ∀ (n k c1 c2 : Nat) (m1 : aMem) (v5 v6 v7 : Value), c1 ≤ 3 → c2 ≤ 3 → 5 ≤ c1 + c2 + n → k < 1000 - n → SL m m1 → m1.1 53 22 = nI c1 → m1.1 53 23 = nI c2 → m1.1 53 24 = nI k → ftN (stAt m 53) a b n k c1 c2 = R → gG X 144 16 [.ref 53, .int (nI a), .int (nI e1), .int (nI b), .int (nI e2), v5, v6, v7] [] m1 (fun r m' => r = none ∧ K m') := by
    intro n
    induction n with
    | zero =>
      intro k c1 c2 m1 v5 v6 v7 h3 h4 h5 h6 hS g22 g23 g24 hR
      refine g_aload_n (pc' := 17) rfl rfl rfl ?_
      refine g_geti (pc' := 20) rfl rfl (i_11_22) ?_
      refine g_vi (y := nI c1) (g22) ?_
      refine g_iconst (pc' := 21) (v := 3) rfl rfl (by decide) ?_
      refine g_icmp_ge (pc' := 24) (t := 143) rfl rfl rfl (fun c_21 => ?_) (fun c_21 => ?_)
      · exact g_return rfl rfl (h m1 hS (by rw [← hR, ft_end (fun z => nI_ge (b := 3) z.1 (by decide) c_21)]; exact g22) (by rw [← hR, ft_end (fun z => nI_ge (b := 3) z.1 (by decide) c_21)]; exact g23) (by rw [← hR, ft_end (fun z => nI_ge (b := 3) z.1 (by decide) c_21)]; exact g24))
      · have hc1 : c1 < 3 := Nat.not_le.mp (fun z => c_21 (nI_le (a := 3) z (by omega)))
        refine g_aload_n (pc' := 25) rfl rfl rfl ?_
        refine g_geti (pc' := 28) rfl rfl (i_11_23) ?_
        refine g_vi (y := nI c2) (g23) ?_
        refine g_iconst (pc' := 29) (v := 3) rfl rfl (by decide) ?_
        refine g_icmp_ge (pc' := 32) (t := 143) rfl rfl rfl (fun c_29 => ?_) (fun c_29 => absurd (nI_le (a := 3) (b := c2) (by omega) (by omega)) c_29)
        exact g_return rfl rfl (h m1 hS (by rw [← hR, ft_end (fun z => nI_ge (b := 3) z.2 (by decide) c_29)]; exact g22) (by rw [← hR, ft_end (fun z => nI_ge (b := 3) z.2 (by decide) c_29)]; exact g23) (by rw [← hR, ft_end (fun z => nI_ge (b := 3) z.2 (by decide) c_29)]; exact g24))
    | succ n ih =>
      intro k c1 c2 m1 v5 v6 v7 h3 h4 h5 h6 hS g22 g23 g24 hR
      refine g_aload_n (pc' := 17) rfl rfl rfl ?_
      refine g_geti (pc' := 20) rfl rfl (i_11_22) ?_
      refine g_vi (y := nI c1) (g22) ?_
      refine g_iconst (pc' := 21) (v := 3) rfl rfl (by decide) ?_
      refine g_icmp_ge (pc' := 24) (t := 143) rfl rfl rfl (fun c_21 => ?_) (fun c_21 => ?_)
      · exact g_return rfl rfl (h m1 hS (by rw [← hR, ft_end (fun z => nI_ge (b := 3) z.1 (by decide) c_21)]; exact g22) (by rw [← hR, ft_end (fun z => nI_ge (b := 3) z.1 (by decide) c_21)]; exact g23) (by rw [← hR, ft_end (fun z => nI_ge (b := 3) z.1 (by decide) c_21)]; exact g24))
      · have hc1 : c1 < 3 := Nat.not_le.mp (fun z => c_21 (nI_le (a := 3) z (by omega)))
        refine g_aload_n (pc' := 25) rfl rfl rfl ?_
        refine g_geti (pc' := 28) rfl rfl (i_11_23) ?_
        refine g_vi (y := nI c2) (g23) ?_
        refine g_iconst (pc' := 29) (v := 3) rfl rfl (by decide) ?_
        refine g_icmp_ge (pc' := 32) (t := 143) rfl rfl rfl (fun c_29 => ?_) (fun c_29 => ?_)
        · exact g_return rfl rfl (h m1 hS (by rw [← hR, ft_end (fun z => nI_ge (b := 3) z.2 (by decide) c_29)]; exact g22) (by rw [← hR, ft_end (fun z => nI_ge (b := 3) z.2 (by decide) c_29)]; exact g23) (by rw [← hR, ft_end (fun z => nI_ge (b := 3) z.2 (by decide) c_29)]; exact g24))
        · have hc2 : c2 < 3 := Nat.not_le.mp (fun z => c_29 (nI_le (a := 3) z (by omega)))
          refine g_aload_n (pc' := 33) rfl rfl rfl ?_
          refine g_iload_n (pc' := 34) rfl rfl rfl ?_
          refine g_aload_n (pc' := 35) rfl rfl rfl ?_
          refine g_geti (pc' := 38) rfl rfl (i_11_22) ?_
          refine g_vi (y := nI c1) (g22) ?_
          refine g_calli (pc' := 41) rfl rfl rfl rfl (Or.inr rfl) ?_
          refine d_forceBy ha ?_
          rw [hS.st]
          refine g_istore (pc' := 43) rfl rfl rfl ?_
          refine g_aload_n (pc' := 44) rfl rfl rfl ?_
          refine g_iload_n (pc' := 45) rfl rfl rfl ?_
          refine g_aload_n (pc' := 46) rfl rfl rfl ?_
          refine g_geti (pc' := 49) rfl rfl (i_11_23) ?_
          refine g_vi (y := nI c2) (g23) ?_
          refine g_calli (pc' := 52) rfl rfl rfl rfl (Or.inr rfl) ?_
          refine d_forceBy hb ?_
          rw [hS.st]
          refine g_istore (pc' := 54) rfl rfl rfl ?_
          refine g_aload_n (pc' := 55) rfl rfl rfl ?_
          refine g_geti (pc' := 58) rfl rfl (i_11_24) ?_
          refine g_vi (y := nI k) (g24) ?_
          refine g_iconst (pc' := 59) (v := 2) rfl rfl (by decide) ?_
          refine g_irem (pc' := 60) rfl rfl (by decide) ?_
          refine g_vi (y := nI (k % 2)) (i_rem (by omega) (by decide) (by decide)) ?_
          refine g_if_ne (pc' := 63) (t := 78) rfl rfl rfl (fun c_60 => ?_) (fun c_60 => ?_)
          · refine g_iload (pc' := 80) rfl rfl rfl ?_
            refine g_iload (pc' := 82) rfl rfl rfl ?_
            refine g_icmp_ge (pc' := 85) (t := 89) rfl rfl rfl (fun c_82 => ?_) (fun c_82 => ?_)
            · refine g_iconst (pc' := 90) (v := 0) rfl rfl (by decide) ?_
              refine g_istore (pc' := 92) rfl rfl rfl ?_
              refine g_aload_n (pc' := 93) rfl rfl rfl ?_
              refine g_dup (pc' := 94) rfl rfl rfl ?_
              refine g_geti (pc' := 97) rfl rfl (i_11_23) ?_
              refine g_vi (y := nI c2) (g23) ?_
              refine g_iload (pc' := 99) rfl rfl rfl ?_
              refine g_if_eq (pc' := 102) (t := 106) rfl rfl rfl (fun _ => ?_) (fun c => absurd c (by decide))
              refine g_iconst (pc' := 107) (v := 0) rfl rfl (by decide) ?_
              refine g_iadd (pc' := 108) rfl rfl ?_
              refine g_vi (y := nI c2) (i_add0 _) ?_
              refine g_puti (pc' := 111) rfl rfl (i_11_23) ?_
              refine g_aload_n (pc' := 112) rfl rfl rfl ?_
              refine g_dup (pc' := 113) rfl rfl rfl ?_
              refine g_geti (pc' := 116) rfl rfl (i_11_22) ?_
              refine g_vi (y := nI c1) (by show am_wi m1.1 53 23 (nI c2) 53 22 = nI c1; rw [am_wi_s, upd_ne (by decide)]; exact g22) ?_
              refine g_iload (pc' := 118) rfl rfl rfl ?_
              refine g_if_eq (pc' := 121) (t := 125) rfl rfl rfl (fun _ => ?_) (fun c => absurd c (by decide))
              refine g_iconst (pc' := 126) (v := 1) rfl rfl (by decide) ?_
              refine g_iadd (pc' := 127) rfl rfl ?_
              refine g_vi (y := nI (c1 + 1)) (nI_1 _) ?_
              refine g_puti (pc' := 130) rfl rfl (i_11_22) ?_
              refine g_aload_n (pc' := 131) rfl rfl rfl ?_
              refine g_dup (pc' := 132) rfl rfl rfl ?_
              refine g_geti (pc' := 135) rfl rfl (i_11_24) ?_
              refine g_vi (y := nI k) (by show am_wi (am_wi m1.1 53 23 (nI c2)) 53 22 (nI (c1 + 1)) 53 24 = nI k; rw [am_wi_s, upd_ne (by decide), am_wi_s, upd_ne (by decide)]; exact g24) ?_
              refine g_iconst (pc' := 136) (v := 1) rfl rfl (by decide) ?_
              refine g_iadd (pc' := 137) rfl rfl ?_
              refine g_vi (y := nI (k + 1)) (nI_1 _) ?_
              refine g_puti (pc' := 140) rfl rfl (i_11_24) ?_
              refine g_goto (pc' := 16) rfl rfl ?_
              exact ih (k + 1) (c1 + 1) c2 _ _ _ _ (by omega) (by omega) (by omega) (by omega) (((hS.w (by decide)).w (by decide)).w (by decide)) (by show am_wi (am_wi (am_wi m1.1 53 23 (nI c2)) 53 22 (nI (c1 + 1))) 53 24 (nI (k + 1)) 53 22 = _; rw [am_wi_s, upd_ne (by decide), am_wi_s, upd_at]) (by show am_wi (am_wi (am_wi m1.1 53 23 (nI c2)) 53 22 (nI (c1 + 1))) 53 24 (nI (k + 1)) 53 23 = _; rw [am_wi_s, upd_ne (by decide), am_wi_s, upd_ne (by decide), am_wi_s, upd_at]) (by show am_wi (am_wi (am_wi m1.1 53 23 (nI c2)) 53 22 (nI (c1 + 1))) 53 24 (nI (k + 1)) 53 24 = _; rw [am_wi_s, upd_at]) (by rw [← hR, ftN, if_pos ⟨hc1, hc2⟩, if_neg (fun z => c_60 (by rw [z]; rfl)), if_pos c_82])
            · refine g_iconst (pc' := 86) (v := 1) rfl rfl (by decide) ?_
              refine g_goto (pc' := 90) rfl rfl ?_
              refine g_istore (pc' := 92) rfl rfl rfl ?_
              refine g_aload_n (pc' := 93) rfl rfl rfl ?_
              refine g_dup (pc' := 94) rfl rfl rfl ?_
              refine g_geti (pc' := 97) rfl rfl (i_11_23) ?_
              refine g_vi (y := nI c2) (g23) ?_
              refine g_iload (pc' := 99) rfl rfl rfl ?_
              refine g_if_eq (pc' := 102) (t := 106) rfl rfl rfl (fun c => absurd c (by decide)) (fun _ => ?_)
              refine g_iconst (pc' := 103) (v := 1) rfl rfl (by decide) ?_
              refine g_goto (pc' := 107) rfl rfl ?_
              refine g_iadd (pc' := 108) rfl rfl ?_
              refine g_vi (y := nI (c2 + 1)) (nI_1 _) ?_
              refine g_puti (pc' := 111) rfl rfl (i_11_23) ?_
              refine g_aload_n (pc' := 112) rfl rfl rfl ?_
              refine g_dup (pc' := 113) rfl rfl rfl ?_
              refine g_geti (pc' := 116) rfl rfl (i_11_22) ?_
              refine g_vi (y := nI c1) (by show am_wi m1.1 53 23 (nI (c2 + 1)) 53 22 = nI c1; rw [am_wi_s, upd_ne (by decide)]; exact g22) ?_
              refine g_iload (pc' := 118) rfl rfl rfl ?_
              refine g_if_eq (pc' := 121) (t := 125) rfl rfl rfl (fun c => absurd c (by decide)) (fun _ => ?_)
              refine g_iconst (pc' := 122) (v := 0) rfl rfl (by decide) ?_
              refine g_goto (pc' := 126) rfl rfl ?_
              refine g_iadd (pc' := 127) rfl rfl ?_
              refine g_vi (y := nI c1) (i_add0 _) ?_
              refine g_puti (pc' := 130) rfl rfl (i_11_22) ?_
              refine g_aload_n (pc' := 131) rfl rfl rfl ?_
              refine g_dup (pc' := 132) rfl rfl rfl ?_
              refine g_geti (pc' := 135) rfl rfl (i_11_24) ?_
              refine g_vi (y := nI k) (by show am_wi (am_wi m1.1 53 23 (nI (c2 + 1))) 53 22 (nI c1) 53 24 = nI k; rw [am_wi_s, upd_ne (by decide), am_wi_s, upd_ne (by decide)]; exact g24) ?_
              refine g_iconst (pc' := 136) (v := 1) rfl rfl (by decide) ?_
              refine g_iadd (pc' := 137) rfl rfl ?_
              refine g_vi (y := nI (k + 1)) (nI_1 _) ?_
              refine g_puti (pc' := 140) rfl rfl (i_11_24) ?_
              refine g_goto (pc' := 16) rfl rfl ?_
              exact ih (k + 1) c1 (c2 + 1) _ _ _ _ (by omega) (by omega) (by omega) (by omega) (((hS.w (by decide)).w (by decide)).w (by decide)) (by show am_wi (am_wi (am_wi m1.1 53 23 (nI (c2 + 1))) 53 22 (nI c1)) 53 24 (nI (k + 1)) 53 22 = _; rw [am_wi_s, upd_ne (by decide), am_wi_s, upd_at]) (by show am_wi (am_wi (am_wi m1.1 53 23 (nI (c2 + 1))) 53 22 (nI c1)) 53 24 (nI (k + 1)) 53 23 = _; rw [am_wi_s, upd_ne (by decide), am_wi_s, upd_ne (by decide), am_wi_s, upd_at]) (by show am_wi (am_wi (am_wi m1.1 53 23 (nI (c2 + 1))) 53 22 (nI c1)) 53 24 (nI (k + 1)) 53 24 = _; rw [am_wi_s, upd_at]) (by rw [← hR, ftN, if_pos ⟨hc1, hc2⟩, if_neg (fun z => c_60 (by rw [z]; rfl)), if_neg c_82])
          · refine g_iload (pc' := 65) rfl rfl rfl ?_
            refine g_iload (pc' := 67) rfl rfl rfl ?_
            refine g_icmp_lt (pc' := 70) (t := 74) rfl rfl rfl (fun c_67 => ?_) (fun c_67 => ?_)
            · refine g_iconst (pc' := 75) (v := 0) rfl rfl (by decide) ?_
              refine g_goto (pc' := 90) rfl rfl ?_
              refine g_istore (pc' := 92) rfl rfl rfl ?_
              refine g_aload_n (pc' := 93) rfl rfl rfl ?_
              refine g_dup (pc' := 94) rfl rfl rfl ?_
              refine g_geti (pc' := 97) rfl rfl (i_11_23) ?_
              refine g_vi (y := nI c2) (g23) ?_
              refine g_iload (pc' := 99) rfl rfl rfl ?_
              refine g_if_eq (pc' := 102) (t := 106) rfl rfl rfl (fun _ => ?_) (fun c => absurd c (by decide))
              refine g_iconst (pc' := 107) (v := 0) rfl rfl (by decide) ?_
              refine g_iadd (pc' := 108) rfl rfl ?_
              refine g_vi (y := nI c2) (i_add0 _) ?_
              refine g_puti (pc' := 111) rfl rfl (i_11_23) ?_
              refine g_aload_n (pc' := 112) rfl rfl rfl ?_
              refine g_dup (pc' := 113) rfl rfl rfl ?_
              refine g_geti (pc' := 116) rfl rfl (i_11_22) ?_
              refine g_vi (y := nI c1) (by show am_wi m1.1 53 23 (nI c2) 53 22 = nI c1; rw [am_wi_s, upd_ne (by decide)]; exact g22) ?_
              refine g_iload (pc' := 118) rfl rfl rfl ?_
              refine g_if_eq (pc' := 121) (t := 125) rfl rfl rfl (fun _ => ?_) (fun c => absurd c (by decide))
              refine g_iconst (pc' := 126) (v := 1) rfl rfl (by decide) ?_
              refine g_iadd (pc' := 127) rfl rfl ?_
              refine g_vi (y := nI (c1 + 1)) (nI_1 _) ?_
              refine g_puti (pc' := 130) rfl rfl (i_11_22) ?_
              refine g_aload_n (pc' := 131) rfl rfl rfl ?_
              refine g_dup (pc' := 132) rfl rfl rfl ?_
              refine g_geti (pc' := 135) rfl rfl (i_11_24) ?_
              refine g_vi (y := nI k) (by show am_wi (am_wi m1.1 53 23 (nI c2)) 53 22 (nI (c1 + 1)) 53 24 = nI k; rw [am_wi_s, upd_ne (by decide), am_wi_s, upd_ne (by decide)]; exact g24) ?_
              refine g_iconst (pc' := 136) (v := 1) rfl rfl (by decide) ?_
              refine g_iadd (pc' := 137) rfl rfl ?_
              refine g_vi (y := nI (k + 1)) (nI_1 _) ?_
              refine g_puti (pc' := 140) rfl rfl (i_11_24) ?_
              refine g_goto (pc' := 16) rfl rfl ?_
              exact ih (k + 1) (c1 + 1) c2 _ _ _ _ (by omega) (by omega) (by omega) (by omega) (((hS.w (by decide)).w (by decide)).w (by decide)) (by show am_wi (am_wi (am_wi m1.1 53 23 (nI c2)) 53 22 (nI (c1 + 1))) 53 24 (nI (k + 1)) 53 22 = _; rw [am_wi_s, upd_ne (by decide), am_wi_s, upd_at]) (by show am_wi (am_wi (am_wi m1.1 53 23 (nI c2)) 53 22 (nI (c1 + 1))) 53 24 (nI (k + 1)) 53 23 = _; rw [am_wi_s, upd_ne (by decide), am_wi_s, upd_ne (by decide), am_wi_s, upd_at]) (by show am_wi (am_wi (am_wi m1.1 53 23 (nI c2)) 53 22 (nI (c1 + 1))) 53 24 (nI (k + 1)) 53 24 = _; rw [am_wi_s, upd_at]) (by rw [← hR, ftN, if_pos ⟨hc1, hc2⟩, if_pos ((nIk0 (by omega)).mp c_60), if_neg (i_lt_nle c_67)])
            · refine g_iconst (pc' := 71) (v := 1) rfl rfl (by decide) ?_
              refine g_goto (pc' := 90) rfl rfl ?_
              refine g_istore (pc' := 92) rfl rfl rfl ?_
              refine g_aload_n (pc' := 93) rfl rfl rfl ?_
              refine g_dup (pc' := 94) rfl rfl rfl ?_
              refine g_geti (pc' := 97) rfl rfl (i_11_23) ?_
              refine g_vi (y := nI c2) (g23) ?_
              refine g_iload (pc' := 99) rfl rfl rfl ?_
              refine g_if_eq (pc' := 102) (t := 106) rfl rfl rfl (fun c => absurd c (by decide)) (fun _ => ?_)
              refine g_iconst (pc' := 103) (v := 1) rfl rfl (by decide) ?_
              refine g_goto (pc' := 107) rfl rfl ?_
              refine g_iadd (pc' := 108) rfl rfl ?_
              refine g_vi (y := nI (c2 + 1)) (nI_1 _) ?_
              refine g_puti (pc' := 111) rfl rfl (i_11_23) ?_
              refine g_aload_n (pc' := 112) rfl rfl rfl ?_
              refine g_dup (pc' := 113) rfl rfl rfl ?_
              refine g_geti (pc' := 116) rfl rfl (i_11_22) ?_
              refine g_vi (y := nI c1) (by show am_wi m1.1 53 23 (nI (c2 + 1)) 53 22 = nI c1; rw [am_wi_s, upd_ne (by decide)]; exact g22) ?_
              refine g_iload (pc' := 118) rfl rfl rfl ?_
              refine g_if_eq (pc' := 121) (t := 125) rfl rfl rfl (fun c => absurd c (by decide)) (fun _ => ?_)
              refine g_iconst (pc' := 122) (v := 0) rfl rfl (by decide) ?_
              refine g_goto (pc' := 126) rfl rfl ?_
              refine g_iadd (pc' := 127) rfl rfl ?_
              refine g_vi (y := nI c1) (i_add0 _) ?_
              refine g_puti (pc' := 130) rfl rfl (i_11_22) ?_
              refine g_aload_n (pc' := 131) rfl rfl rfl ?_
              refine g_dup (pc' := 132) rfl rfl rfl ?_
              refine g_geti (pc' := 135) rfl rfl (i_11_24) ?_
              refine g_vi (y := nI k) (by show am_wi (am_wi m1.1 53 23 (nI (c2 + 1))) 53 22 (nI c1) 53 24 = nI k; rw [am_wi_s, upd_ne (by decide), am_wi_s, upd_ne (by decide)]; exact g24) ?_
              refine g_iconst (pc' := 136) (v := 1) rfl rfl (by decide) ?_
              refine g_iadd (pc' := 137) rfl rfl ?_
              refine g_vi (y := nI (k + 1)) (nI_1 _) ?_
              refine g_puti (pc' := 140) rfl rfl (i_11_24) ?_
              refine g_goto (pc' := 16) rfl rfl ?_
              exact ih (k + 1) c1 (c2 + 1) _ _ _ _ (by omega) (by omega) (by omega) (by omega) (((hS.w (by decide)).w (by decide)).w (by decide)) (by show am_wi (am_wi (am_wi m1.1 53 23 (nI (c2 + 1))) 53 22 (nI c1)) 53 24 (nI (k + 1)) 53 22 = _; rw [am_wi_s, upd_ne (by decide), am_wi_s, upd_at]) (by show am_wi (am_wi (am_wi m1.1 53 23 (nI (c2 + 1))) 53 22 (nI c1)) 53 24 (nI (k + 1)) 53 23 = _; rw [am_wi_s, upd_ne (by decide), am_wi_s, upd_ne (by decide), am_wi_s, upd_at]) (by show am_wi (am_wi (am_wi m1.1 53 23 (nI (c2 + 1))) 53 22 (nI c1)) 53 24 (nI (k + 1)) 53 24 = _; rw [am_wi_s, upd_at]) (by rw [← hR, ftN, if_pos ⟨hc1, hc2⟩, if_pos ((nIk0 (by omega)).mp c_60), if_pos (i_nlt_le c_67)])
  refine g_aload_n (pc' := 1) rfl rfl rfl ?_
  refine g_iload_n (pc' := 2) rfl rfl rfl ?_
  refine g_puti (pc' := 5) rfl rfl (i_11_22) ?_
  refine g_aload_n (pc' := 6) rfl rfl rfl ?_
  refine g_iload (pc' := 8) rfl rfl rfl ?_
  refine g_puti (pc' := 11) rfl rfl (i_11_23) ?_
  refine g_aload_n (pc' := 12) rfl rfl rfl ?_
  refine g_iconst (pc' := 13) (v := 0) rfl rfl (by decide) ?_
  refine g_puti (pc' := 16) rfl rfl (i_11_24) ?_
  exact loop 5 0 e1 e2 _ _ _ _ (by omega) (by omega) (by omega) (by decide) (((SL.rf.w (by decide)).w (by decide)).w (by decide)) (by show am_wi (am_wi (am_wi m.1 53 22 (nI e1)) 53 23 (nI e2)) 53 24 0 53 22 = _; rw [am_wi_s, upd_ne (by decide), am_wi_s, upd_ne (by decide), am_wi_s, upd_at]) (by show am_wi (am_wi (am_wi m.1 53 22 (nI e1)) 53 23 (nI e2)) 53 24 0 53 23 = _; rw [am_wi_s, upd_ne (by decide), am_wi_s, upd_at]) (by show am_wi (am_wi (am_wi m.1 53 22 (nI e1)) 53 23 (nI e2)) 53 24 0 53 24 = _; rw [am_wi_s, upd_at]; rfl) hR0
theorem d_fight {x y w : Int32} (hM : MI m A) {Mx : Nat} (hW : WFs Mx (aS A)) (h : ∀ m', Fr 53 73 m m' → MI m' (r_fight A x y w).2 → K (r_fight A x y w).1 m') : gCi X 145 [.ref 53, .int x, .int y, .int w] m K := by
  refine g_inI rfl ?_
  refine g_iload_n (pc' := 1) rfl rfl rfl ?_
  refine g_calli (pc' := 4) rfl rfl rfl rfl (Or.inl rfl) ?_
  refine d_isNut (fun a ha ex => ?_) (fun x0 => ?_)
  · refine g_if_eq (pc' := 7) (t := 19) rfl rfl rfl (fun c => absurd c (by decide)) (fun _ => ?_)
    refine g_iload_n (pc' := 8) rfl rfl rfl ?_
    refine g_calli (pc' := 11) rfl rfl rfl rfl (Or.inl rfl) ?_
    refine d_isNut (fun b hb ey => ?_) (fun y0 => ?_)
    · refine g_if_eq (pc' := 14) (t := 19) rfl rfl rfl (fun c => absurd c (by decide)) (fun _ => ?_)
      refine g_iload_n (pc' := 15) rfl rfl rfl ?_
      refine g_iload_n (pc' := 16) rfl rfl rfl ?_
      refine g_icmp_ne (pc' := 19) (t := 21) rfl rfl rfl (fun c_16 => ?_) (fun c_16 => ?_)
      · have hno : ¬ (¬ (0 ≤ x ∧ x ≤ 9) ∨ ¬ (0 ≤ y ∧ y ≤ 9) ∨ x = y) := fun z => z.elim (nn (by rw [ex]; exact rn_9 ha)) (fun z => z.elim (nn (by rw [ey]; exact rn_9 hb)) c_16)
        refine g_iload_n (pc' := 22) rfl rfl rfl ?_
        refine g_i2l (pc' := 23) rfl rfl ?_
        refine g_lconst (pc' := 24) (v := 0) rfl rfl (by decide) ?_
        refine g_ldc2_w (pc' := 27) (v := 2) rfl rfl (by decide) ?_
        refine g_calli (pc' := 30) rfl rfl rfl rfl (Or.inl rfl) ?_
        refine d_in (lo := 0) (hi := 2) (by decide) (by decide) (fun u1 u2 => ?_) (fun u0 => ?_)
        · refine g_if_ne (pc' := 33) (t := 36) rfl rfl rfl (fun _ => ?_) (fun c => absurd c (by decide))
          have es := hM.1
          refine g_aload_n (pc' := 37) rfl rfl rfl ?_
          refine g_iload_n (pc' := 38) rfl rfl rfl ?_
          refine g_calli (pc' := 41) rfl rfl rfl rfl (Or.inr rfl) ?_
          refine (ex ▸ d_isBroken ha (fun qa => ?_) (fun qa => ?_))
          · refine g_if_ne (pc' := 44) (t := 52) rfl rfl rfl (fun _ => ?_) (fun c => absurd c (by decide))
            refine g_bipush (pc' := 54) (v := -3) rfl rfl (by decide) ?_
            exact g_ireturn rfl rfl (mf h (by unfold r_fight; rw [if_neg hno, if_neg (nn ⟨u1, u2⟩), if_pos (Or.inl (by rw [ex, ix_nI (by omega), ← es]; exact qa))]) Fr.rf hM)
          · refine g_if_ne (pc' := 44) (t := 52) rfl rfl rfl (fun c => absurd c (by decide)) (fun _ => ?_)
            refine g_aload_n (pc' := 45) rfl rfl rfl ?_
            refine g_iload_n (pc' := 46) rfl rfl rfl ?_
            refine g_calli (pc' := 49) rfl rfl rfl rfl (Or.inr rfl) ?_
            refine (ey ▸ d_isBroken hb (fun qb => ?_) (fun qb => ?_))
            · refine g_if_eq (pc' := 52) (t := 55) rfl rfl rfl (fun c => absurd c (by decide)) (fun _ => ?_)
              refine g_bipush (pc' := 54) (v := -3) rfl rfl (by decide) ?_
              exact g_ireturn rfl rfl (mf h (by unfold r_fight; rw [if_neg hno, if_neg (nn ⟨u1, u2⟩), if_pos (Or.inr (by rw [ey, ix_nI (by omega), ← es]; exact qb))]) Fr.rf hM)
            · refine g_if_eq (pc' := 52) (t := 55) rfl rfl rfl (fun _ => ?_) (fun c => absurd c (by decide))
              rw [es] at qa qb
              obtain ⟨c1, hc1, e1⟩ := hW.live ha qa
              obtain ⟨c2, hc2, e2⟩ := hW.live hb qb
              obtain ⟨hO, hN, hm1, hm2⟩ := ft_out (s := aS A) (a := a) (b := b) 5 0 c1 c2 (by omega) (by omega) (by omega) (by omega)
              have hD := (ft_duel (s := aS A) (a := a) (b := b) 5 0 c1 c2 hc1 hc2 (by omega)).1 rfl
              have er : r_fight A x y w = (if w = 0 then (if (ftN (aS A) a b 5 0 c1 c2).1 < 3 then nI a else nI b) else if w = 1 then nI (ftN (aS A) a b 5 0 c1 c2).2.2 else if (ftN (aS A) a b 5 0 c1 c2).1 < 3 then nI (ftN (aS A) a b 5 0 c1 c2).1 else nI (ftN (aS A) a b 5 0 c1 c2).2.1, A) := by unfold r_fight ftS; rw [if_neg hno, if_neg (nn ⟨u1, u2⟩), ex, ey, ix_nI (by omega), ix_nI (by omega), if_neg (fun z => z.elim qa qb), e1, e2, ix_nI (by omega), ix_nI (by omega)]
              subst ex
              subst ey
              generalize hRR : ftN (aS A) a b 5 0 c1 c2 = R at *
              obtain ⟨R1, R2, R3⟩ := R
              dsimp only at *
              refine g_aload_n (pc' := 56) rfl rfl rfl ?_
              refine g_iload_n (pc' := 57) rfl rfl rfl ?_
              refine g_aload_n (pc' := 58) rfl rfl rfl ?_
              refine g_getr (pc' := 61) rfl rfl (f_11_1) ?_
              refine g_iload_n (pc' := 62) rfl rfl rfl ?_
              refine g_iald (pc' := 63) rfl rfl (a_55) ha rfl ?_
              refine g_vi (y := nI c1) (by rw [r_C ha, es]; exact e1) ?_
              refine g_iload_n (pc' := 64) rfl rfl rfl ?_
              refine g_aload_n (pc' := 65) rfl rfl rfl ?_
              refine g_getr (pc' := 68) rfl rfl (f_11_1) ?_
              refine g_iload_n (pc' := 69) rfl rfl rfl ?_
              refine g_iald (pc' := 70) rfl rfl (a_55) hb rfl ?_
              refine g_vi (y := nI c2) (by rw [r_C hb, es]; exact e2) ?_
              refine g_callv (pc' := 73) rfl rfl rfl rfl (Or.inr rfl) ?_
              refine d_fightOut ha hb hc1 hc2 (by rw [es, hRR]) (fun m1 s1 g22 g23 g24 => ?_)
              have kp := s1.kp
              have hM1 := kp.mi0 hM (s1.st.trans es)
              refine g_aload_n (pc' := 74) rfl rfl rfl ?_
              refine g_geti (pc' := 77) rfl rfl (i_11_22) ?_
              refine g_vi (y := nI R1) (g22) ?_
              refine g_iconst (pc' := 78) (v := 3) rfl rfl (by decide) ?_
              refine g_icmp_ge (pc' := 81) (t := 85) rfl rfl rfl (fun c_78 => ?_) (fun c_78 => ?_)
              · refine g_iconst (pc' := 86) (v := 0) rfl rfl (by decide) ?_
                refine g_istore (pc' := 88) rfl rfl rfl ?_
                refine g_iload_n (pc' := 89) rfl rfl rfl ?_
                refine g_if_ne (pc' := 92) (t := 105) rfl rfl rfl (fun c_89 => ?_) (fun c_89 => ?_)
                · refine g_iload_n (pc' := 106) rfl rfl rfl ?_
                  refine g_iconst (pc' := 107) (v := 1) rfl rfl (by decide) ?_
                  refine g_icmp_ne (pc' := 110) (t := 117) rfl rfl rfl (fun c_107 => ?_) (fun c_107 => ?_)
                  · refine g_iload (pc' := 119) rfl rfl rfl ?_
                    refine g_if_eq (pc' := 122) (t := 129) rfl rfl rfl (fun _ => ?_) (fun c => absurd c (by decide))
                    refine g_aload_n (pc' := 130) rfl rfl rfl ?_
                    refine g_geti (pc' := 133) rfl rfl (i_11_23) ?_
                    refine g_vi (y := nI R2) (g23) ?_
                    exact g_ireturn rfl rfl (g_eq (mf h er kp.fr hM1) (by rw [if_neg c_89, if_neg c_107, if_neg (fun z => nI_ge (b := 3) z (by decide) c_78)]) rfl)
                  · refine g_aload_n (pc' := 111) rfl rfl rfl ?_
                    refine g_geti (pc' := 114) rfl rfl (i_11_24) ?_
                    refine g_vi (y := nI R3) (g24) ?_
                    refine g_goto (pc' := 133) rfl rfl ?_
                    exact g_ireturn rfl rfl (g_eq (mf h er kp.fr hM1) (by rw [if_neg c_89, if_pos c_107]) rfl)
                · refine g_iload (pc' := 94) rfl rfl rfl ?_
                  refine g_if_eq (pc' := 97) (t := 101) rfl rfl rfl (fun _ => ?_) (fun c => absurd c (by decide))
                  refine g_iload_n (pc' := 102) rfl rfl rfl ?_
                  refine g_goto (pc' := 133) rfl rfl ?_
                  exact g_ireturn rfl rfl (g_eq (mf h er kp.fr hM1) (by rw [if_pos c_89, if_neg (fun z => nI_ge (b := 3) z (by decide) c_78)]) rfl)
              · refine g_iconst (pc' := 82) (v := 1) rfl rfl (by decide) ?_
                refine g_goto (pc' := 86) rfl rfl ?_
                refine g_istore (pc' := 88) rfl rfl rfl ?_
                refine g_iload_n (pc' := 89) rfl rfl rfl ?_
                refine g_if_ne (pc' := 92) (t := 105) rfl rfl rfl (fun c_89 => ?_) (fun c_89 => ?_)
                · refine g_iload_n (pc' := 106) rfl rfl rfl ?_
                  refine g_iconst (pc' := 107) (v := 1) rfl rfl (by decide) ?_
                  refine g_icmp_ne (pc' := 110) (t := 117) rfl rfl rfl (fun c_107 => ?_) (fun c_107 => ?_)
                  · refine g_iload (pc' := 119) rfl rfl rfl ?_
                    refine g_if_eq (pc' := 122) (t := 129) rfl rfl rfl (fun c => absurd c (by decide)) (fun _ => ?_)
                    refine g_aload_n (pc' := 123) rfl rfl rfl ?_
                    refine g_geti (pc' := 126) rfl rfl (i_11_22) ?_
                    refine g_vi (y := nI R1) (g22) ?_
                    refine g_goto (pc' := 133) rfl rfl ?_
                    exact g_ireturn rfl rfl (g_eq (mf h er kp.fr hM1) (by rw [if_neg c_89, if_neg c_107, if_pos (Nat.not_le.mp (fun z => c_78 (nI_le (a := 3) z (by omega))))]) rfl)
                  · refine g_aload_n (pc' := 111) rfl rfl rfl ?_
                    refine g_geti (pc' := 114) rfl rfl (i_11_24) ?_
                    refine g_vi (y := nI R3) (g24) ?_
                    refine g_goto (pc' := 133) rfl rfl ?_
                    exact g_ireturn rfl rfl (g_eq (mf h er kp.fr hM1) (by rw [if_neg c_89, if_pos c_107]) rfl)
                · refine g_iload (pc' := 94) rfl rfl rfl ?_
                  refine g_if_eq (pc' := 97) (t := 101) rfl rfl rfl (fun c => absurd c (by decide)) (fun _ => ?_)
                  refine g_iload_n (pc' := 98) rfl rfl rfl ?_
                  refine g_goto (pc' := 133) rfl rfl ?_
                  exact g_ireturn rfl rfl (g_eq (mf h er kp.fr hM1) (by rw [if_pos c_89, if_pos (Nat.not_le.mp (fun z => c_78 (nI_le (a := 3) z (by omega))))]) rfl)
        · refine g_if_ne (pc' := 33) (t := 36) rfl rfl rfl (fun c => absurd c (by decide)) (fun _ => ?_)
          refine g_bipush (pc' := 35) (v := -2) rfl rfl (by decide) ?_
          exact g_ireturn rfl rfl (mf h (by unfold r_fight; rw [if_neg hno, if_pos u0]) Fr.rf hM)
      · refine g_iconst (pc' := 20) (v := -1) rfl rfl (by decide) ?_
        exact g_ireturn rfl rfl (mf h (by unfold r_fight; rw [if_pos (Or.inr (Or.inr c_16))]) Fr.rf hM)
    · refine g_if_eq (pc' := 14) (t := 19) rfl rfl rfl (fun _ => ?_) (fun c => absurd c (by decide))
      refine g_iconst (pc' := 20) (v := -1) rfl rfl (by decide) ?_
      exact g_ireturn rfl rfl (mf h (by unfold r_fight; rw [if_pos (Or.inr (Or.inl y0))]) Fr.rf hM)
  · refine g_if_eq (pc' := 7) (t := 19) rfl rfl rfl (fun _ => ?_) (fun c => absurd c (by decide))
    refine g_iconst (pc' := 20) (v := -1) rfl rfl (by decide) ?_
    exact g_ireturn rfl rfl (mf h (by unfold r_fight; rw [if_pos (Or.inl x0)]) Fr.rf hM)
theorem c_fight {x y w : Int32} (hC : CI m A) {Mx : Nat} (hW : WFs Mx (aS A)) (h : ∀ m', Fr 1 53 m m' → CI m' (r_fight A x y w).2 → K (r_fight A x y w).1 m') : gCi X 87 [.ref 1, .int x, .int y, .int w] m K := by
  refine g_inI rfl ?_
  refine g_iload_n (pc' := 1) rfl rfl rfl ?_
  refine g_calli (pc' := 4) rfl rfl rfl rfl (Or.inl rfl) ?_
  refine c_isNut (fun a ha ex => ?_) (fun x0 => ?_)
  · refine g_if_eq (pc' := 7) (t := 19) rfl rfl rfl (fun c => absurd c (by decide)) (fun _ => ?_)
    refine g_iload_n (pc' := 8) rfl rfl rfl ?_
    refine g_calli (pc' := 11) rfl rfl rfl rfl (Or.inl rfl) ?_
    refine c_isNut (fun b hb ey => ?_) (fun y0 => ?_)
    · refine g_if_eq (pc' := 14) (t := 19) rfl rfl rfl (fun c => absurd c (by decide)) (fun _ => ?_)
      refine g_iload_n (pc' := 15) rfl rfl rfl ?_
      refine g_iload_n (pc' := 16) rfl rfl rfl ?_
      refine g_icmp_ne (pc' := 19) (t := 21) rfl rfl rfl (fun c_16 => ?_) (fun c_16 => ?_)
      · have hno : ¬ (¬ (0 ≤ x ∧ x ≤ 9) ∨ ¬ (0 ≤ y ∧ y ≤ 9) ∨ x = y) := fun z => z.elim (nn (by rw [ex]; exact rn_9 ha)) (fun z => z.elim (nn (by rw [ey]; exact rn_9 hb)) c_16)
        refine g_iload_n (pc' := 22) rfl rfl rfl ?_
        refine g_iconst (pc' := 23) (v := 0) rfl rfl (by decide) ?_
        refine g_iconst (pc' := 24) (v := 2) rfl rfl (by decide) ?_
        refine g_calli (pc' := 27) rfl rfl rfl rfl (Or.inl rfl) ?_
        refine c_isWithin (fun u1 u2 => ?_) (fun u0 => ?_)
        · refine g_if_ne (pc' := 30) (t := 33) rfl rfl rfl (fun _ => ?_) (fun c => absurd c (by decide))
          have es := hC.1
          refine g_aload_n (pc' := 34) rfl rfl rfl ?_
          refine g_getr (pc' := 37) rfl rfl (f_10_0) ?_
          refine g_iload_n (pc' := 38) rfl rfl rfl ?_
          refine g_calli (pc' := 41) rfl rfl rfl rfl (Or.inr (rc_S isS_2)) ?_
          refine (ex ▸ c_isBroken isS_2 ha (fun qa => ?_) (fun qa => ?_))
          · refine g_if_ne (pc' := 44) (t := 55) rfl rfl rfl (fun _ => ?_) (fun c => absurd c (by decide))
            refine g_bipush (pc' := 57) (v := -3) rfl rfl (by decide) ?_
            exact g_ireturn rfl rfl (cf h (by unfold r_fight; rw [if_neg hno, if_neg (nn ⟨u1, u2⟩), if_pos (Or.inl (by rw [ex, ix_nI (by omega), ← es]; exact qa))]) Fr.rf hC)
          · refine g_if_ne (pc' := 44) (t := 55) rfl rfl rfl (fun c => absurd c (by decide)) (fun _ => ?_)
            refine g_aload_n (pc' := 45) rfl rfl rfl ?_
            refine g_getr (pc' := 48) rfl rfl (f_10_0) ?_
            refine g_iload_n (pc' := 49) rfl rfl rfl ?_
            refine g_calli (pc' := 52) rfl rfl rfl rfl (Or.inr (rc_S isS_2)) ?_
            refine (ey ▸ c_isBroken isS_2 hb (fun qb => ?_) (fun qb => ?_))
            · refine g_if_eq (pc' := 55) (t := 58) rfl rfl rfl (fun c => absurd c (by decide)) (fun _ => ?_)
              refine g_bipush (pc' := 57) (v := -3) rfl rfl (by decide) ?_
              exact g_ireturn rfl rfl (cf h (by unfold r_fight; rw [if_neg hno, if_neg (nn ⟨u1, u2⟩), if_pos (Or.inr (by rw [ey, ix_nI (by omega), ← es]; exact qb))]) Fr.rf hC)
            · refine g_if_eq (pc' := 55) (t := 58) rfl rfl rfl (fun _ => ?_) (fun c => absurd c (by decide))
              rw [es] at qa qb
              obtain ⟨c1, hc1, e1⟩ := hW.live ha qa
              obtain ⟨c2, hc2, e2⟩ := hW.live hb qb
              obtain ⟨hO, hN, hm1, hm2⟩ := ft_out (s := aS A) (a := a) (b := b) 5 0 c1 c2 (by omega) (by omega) (by omega) (by omega)
              have hD := (ft_duel (s := aS A) (a := a) (b := b) 5 0 c1 c2 hc1 hc2 (by omega)).1 rfl
              have er : r_fight A x y w = (if w = 0 then (if (ftN (aS A) a b 5 0 c1 c2).1 < 3 then nI a else nI b) else if w = 1 then nI (ftN (aS A) a b 5 0 c1 c2).2.2 else if (ftN (aS A) a b 5 0 c1 c2).1 < 3 then nI (ftN (aS A) a b 5 0 c1 c2).1 else nI (ftN (aS A) a b 5 0 c1 c2).2.1, A) := by unfold r_fight ftS; rw [if_neg hno, if_neg (nn ⟨u1, u2⟩), ex, ey, ix_nI (by omega), ix_nI (by omega), if_neg (fun z => z.elim qa qb), e1, e2, ix_nI (by omega), ix_nI (by omega)]
              subst ex
              subst ey
              generalize hRR : ftN (aS A) a b 5 0 c1 c2 = R at *
              obtain ⟨R1, R2, R3⟩ := R
              dsimp only at *
              have hcw : ∃ wn cw, wn < 10 ∧ cw < 3 ∧ winF a b (R1, R2, R3) = 4 * wn + cw ∧ ((R1 < 3 ∧ wn = a ∧ cw = R1) ∨ (¬ R1 < 3 ∧ wn = b ∧ cw = R2)) := by
                unfold winF
                by_cases z : R1 < 3
                · exact ⟨a, R1, ha, z, if_pos z, Or.inl ⟨z, rfl, rfl⟩⟩
                · exact ⟨b, R2, hb, by omega, if_neg z, Or.inr ⟨z, rfl, rfl⟩⟩
              obtain ⟨wn, cw, hwn, hcw, hwf, hws⟩ := hcw
              refine g_aload_n (pc' := 59) rfl rfl rfl ?_
              refine g_getr (pc' := 62) rfl rfl (f_10_0) ?_
              refine g_aload_n (pc' := 63) rfl rfl rfl ?_
              refine g_getr (pc' := 66) rfl rfl (f_10_0) ?_
              refine g_iload_n (pc' := 67) rfl rfl rfl ?_
              refine g_calli (pc' := 70) rfl rfl rfl rfl (Or.inr (rc_S isS_2)) ?_
              refine c_fighterOf isS_2 ha (by rw [es]; exact e1) ?_
              refine g_aload_n (pc' := 71) rfl rfl rfl ?_
              refine g_getr (pc' := 74) rfl rfl (f_10_0) ?_
              refine g_iload_n (pc' := 75) rfl rfl rfl ?_
              refine g_calli (pc' := 78) rfl rfl rfl rfl (Or.inr (rc_S isS_2)) ?_
              refine c_fighterOf isS_2 hb (by rw [es]; exact e2) ?_
              refine g_calli (pc' := 81) rfl rfl rfl rfl (Or.inr (rc_S isS_2)) ?_
              refine c_duel isS_2 ha hc1 hb hc2 ?_
              rw [es, hD, hwf]
              refine g_istore (pc' := 83) rfl rfl rfl ?_
              refine g_iload_n (pc' := 84) rfl rfl rfl ?_
              refine g_if_ne (pc' := 87) (t := 93) rfl rfl rfl (fun c_84 => ?_) (fun c_84 => ?_)
              · refine g_iload_n (pc' := 94) rfl rfl rfl ?_
                refine g_iconst (pc' := 95) (v := 2) rfl rfl (by decide) ?_
                refine g_icmp_ne (pc' := 98) (t := 104) rfl rfl rfl (fun c_95 => ?_) (fun c_95 => ?_)
                · have hw1 : w = 1 := by
                    obtain ⟨j, hj, ej⟩ := i_in (n := 2) (by decide) u1 u2
                    rcases (show j = 0 ∨ j = 1 ∨ j = 2 by omega) with q | q | q <;> subst q
                    · exact absurd ej c_84
                    · exact ej
                    · exact absurd ej c_95
                  have hab : a ≠ b := fun z => c_16 (by rw [z])
                  refine g_iload (pc' := 106) rfl rfl rfl ?_
                  refine g_calli (pc' := 109) rfl rfl rfl rfl (Or.inl rfl) ?_
                  refine c_nutOf (by omega) (by omega) ?_
                  refine g_iload_n (pc' := 110) rfl rfl rfl ?_
                  refine g_icmp_ne (pc' := 113) (t := 117) rfl rfl rfl (fun c_110 => ?_) (fun c_110 => ?_)
                  · refine g_iload_n (pc' := 118) rfl rfl rfl ?_
                    refine g_istore (pc' := 120) rfl rfl rfl ?_
                    have hwa : wn = b := by
                      rcases hws with ⟨_, q, _⟩ | ⟨_, q, _⟩
                      · exact absurd (by rw [q]) c_110
                      · exact q
                    have hr1 : ¬ R1 < 3 := by
                      rcases hws with ⟨_, q, _⟩ | ⟨q, _, _⟩
                      · omega
                      · exact q
                    have hcc : sC (stAt m 2) wn = nI c2 := by rw [es, hwa]; exact e2
                    refine g_iload (pc' := 122) rfl rfl rfl ?_
                    refine g_aload_n (pc' := 123) rfl rfl rfl ?_
                    refine g_getr (pc' := 126) rfl rfl (f_10_0) ?_
                    refine g_iload (pc' := 128) rfl rfl rfl ?_
                    refine g_calli (pc' := 131) rfl rfl rfl rfl (Or.inl rfl) ?_
                    refine c_nutOf (by omega) (by omega) ?_
                    refine g_calli (pc' := 134) rfl rfl rfl rfl (Or.inr (rc_S isS_2)) ?_
                    refine c_fighterOf isS_2 hwn hcc ?_
                    refine g_isub (pc' := 135) rfl rfl ?_
                    refine g_vi (y := nI (cw - c2)) (by rw [pk_sub (by omega)]; congr 1; omega) ?_
                    refine g_iconst (pc' := 136) (v := 3) rfl rfl (by decide) ?_
                    refine g_iadd (pc' := 137) rfl rfl ?_
                    refine g_vi (y := nI (cw - c2 + 3)) (nI_add _ 3) ?_
                    refine g_aload_n (pc' := 138) rfl rfl rfl ?_
                    refine g_getr (pc' := 141) rfl rfl (f_10_0) ?_
                    refine g_getr (pc' := 144) rfl rfl (f_8_1 isS_2) ?_
                    refine g_iload (pc' := 146) rfl rfl rfl ?_
                    refine g_iald (pc' := 147) rfl rfl (a_S2 isS_2) ha rfl ?_
                    refine g_vi (y := nI c1) (by rw [st_C (p := 2) ha, es]; exact e1) ?_
                    refine g_isub (pc' := 148) rfl rfl ?_
                    refine g_vi (y := nI (cw - c2 + 3 - c1)) (pk_sub (by omega)) ?_
                    exact g_ireturn rfl rfl (g_eq (cf h er Fr.rf hC) (by rw [if_neg c_84, if_pos hw1]; congr 1; omega) rfl)
                  · refine g_iload_n (pc' := 114) rfl rfl rfl ?_
                    refine g_goto (pc' := 118) rfl rfl ?_
                    refine g_istore (pc' := 120) rfl rfl rfl ?_
                    have hwa : wn = a := (nI_eq (by omega) (by omega)).mp c_110
                    have hr1 : R1 < 3 := by omega
                    have hcc : sC (stAt m 2) wn = nI c1 := by rw [es, hwa]; exact e1
                    refine g_iload (pc' := 122) rfl rfl rfl ?_
                    refine g_aload_n (pc' := 123) rfl rfl rfl ?_
                    refine g_getr (pc' := 126) rfl rfl (f_10_0) ?_
                    refine g_iload (pc' := 128) rfl rfl rfl ?_
                    refine g_calli (pc' := 131) rfl rfl rfl rfl (Or.inl rfl) ?_
                    refine c_nutOf (by omega) (by omega) ?_
                    refine g_calli (pc' := 134) rfl rfl rfl rfl (Or.inr (rc_S isS_2)) ?_
                    refine c_fighterOf isS_2 hwn hcc ?_
                    refine g_isub (pc' := 135) rfl rfl ?_
                    refine g_vi (y := nI (cw - c1)) (by rw [pk_sub (by omega)]; congr 1; omega) ?_
                    refine g_iconst (pc' := 136) (v := 3) rfl rfl (by decide) ?_
                    refine g_iadd (pc' := 137) rfl rfl ?_
                    refine g_vi (y := nI (cw - c1 + 3)) (nI_add _ 3) ?_
                    refine g_aload_n (pc' := 138) rfl rfl rfl ?_
                    refine g_getr (pc' := 141) rfl rfl (f_10_0) ?_
                    refine g_getr (pc' := 144) rfl rfl (f_8_1 isS_2) ?_
                    refine g_iload (pc' := 146) rfl rfl rfl ?_
                    refine g_iald (pc' := 147) rfl rfl (a_S2 isS_2) hb rfl ?_
                    refine g_vi (y := nI c2) (by rw [st_C (p := 2) hb, es]; exact e2) ?_
                    refine g_isub (pc' := 148) rfl rfl ?_
                    refine g_vi (y := nI (cw - c1 + 3 - c2)) (pk_sub (by omega)) ?_
                    exact g_ireturn rfl rfl (g_eq (cf h er Fr.rf hC) (by rw [if_neg c_84, if_pos hw1]; congr 1; omega) rfl)
                · refine g_iload (pc' := 100) rfl rfl rfl ?_
                  refine g_calli (pc' := 103) rfl rfl rfl rfl (Or.inl rfl) ?_
                  refine c_cracksOf (by omega) (by omega) ?_
                  exact g_ireturn rfl rfl (g_eq (cf h er Fr.rf hC) (by rw [if_neg c_84, if_neg (by rw [c_95]; decide)]; exact hws.elim (fun z => by rw [if_pos z.1, z.2.2]) (fun z => by rw [if_neg z.1, z.2.2])) rfl)
              · refine g_iload (pc' := 89) rfl rfl rfl ?_
                refine g_calli (pc' := 92) rfl rfl rfl rfl (Or.inl rfl) ?_
                refine c_nutOf (by omega) (by omega) ?_
                exact g_ireturn rfl rfl (g_eq (cf h er Fr.rf hC) (by rw [if_pos c_84]; exact hws.elim (fun z => by rw [if_pos z.1, z.2.1]) (fun z => by rw [if_neg z.1, z.2.1])) rfl)
        · refine g_if_ne (pc' := 30) (t := 33) rfl rfl rfl (fun c => absurd c (by decide)) (fun _ => ?_)
          refine g_bipush (pc' := 32) (v := -2) rfl rfl (by decide) ?_
          exact g_ireturn rfl rfl (cf h (by unfold r_fight; rw [if_neg hno, if_pos u0]) Fr.rf hC)
      · refine g_iconst (pc' := 20) (v := -1) rfl rfl (by decide) ?_
        exact g_ireturn rfl rfl (cf h (by unfold r_fight; rw [if_pos (Or.inr (Or.inr c_16))]) Fr.rf hC)
    · refine g_if_eq (pc' := 14) (t := 19) rfl rfl rfl (fun _ => ?_) (fun c => absurd c (by decide))
      refine g_iconst (pc' := 20) (v := -1) rfl rfl (by decide) ?_
      exact g_ireturn rfl rfl (cf h (by unfold r_fight; rw [if_pos (Or.inr (Or.inl y0))]) Fr.rf hC)
  · refine g_if_eq (pc' := 7) (t := 19) rfl rfl rfl (fun _ => ?_) (fun c => absurd c (by decide))
    refine g_iconst (pc' := 20) (v := -1) rfl rfl (by decide) ?_
    exact g_ireturn rfl rfl (cf h (by unfold r_fight; rw [if_pos (Or.inl x0)]) Fr.rf hC)
end F1
