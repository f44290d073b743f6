/-! LOTS: the model's answer -/
section L4
variable {X : aX} {m : aMem} {A : aA}
theorem d_madd {K : aMem → Prop} {p p' : aFr} {a b : Int64} (hp : FRM m p) (ha : addM p a b = some p') (h : ∀ m', FL m m' → FRM m' p' → K m') : gCv X 168 [.ref 53, .long a, .long b] m K := by
  refine g_inV rfl ?_
  obtain ⟨g, e, hg, g0, he, e0, ep⟩ := addM_ok ha
  refine g_aload_n (pc' := 1) rfl rfl rfl ?_
  refine g_getl (pc' := 4) rfl rfl (i_11_31) ?_
  refine g_vl (y := p.2) (hp.2) ?_
  refine g_lload_n (pc' := 5) rfl rfl rfl ?_
  refine g_calll (pc' := 8) rfl rfl rfl rfl (Or.inl rfl) ?_
  refine d_divisor hg ?_
  refine g_lstore (pc' := 10) rfl rfl rfl ?_
  refine g_aload_n (pc' := 11) rfl rfl rfl ?_
  refine g_aload_n (pc' := 12) rfl rfl rfl ?_
  refine g_getl (pc' := 15) rfl rfl (i_11_30) ?_
  refine g_vl (y := p.1) (hp.1) ?_
  refine g_lload_n (pc' := 16) rfl rfl rfl ?_
  refine g_lload (pc' := 18) rfl rfl rfl ?_
  refine g_ldiv (pc' := 19) rfl rfl (g0) ?_
  refine g_lmul (pc' := 20) rfl rfl ?_
  refine g_lload_n (pc' := 21) rfl rfl rfl ?_
  refine g_aload_n (pc' := 22) rfl rfl rfl ?_
  refine g_getl (pc' := 25) rfl rfl (i_11_31) ?_
  refine g_vl (y := p.2) (hp.2) ?_
  refine g_lload (pc' := 27) rfl rfl rfl ?_
  refine g_ldiv (pc' := 28) rfl rfl (g0) ?_
  refine g_lmul (pc' := 29) rfl rfl ?_
  refine g_ladd (pc' := 30) rfl rfl ?_
  refine g_putl (pc' := 33) rfl rfl (i_11_30) ?_
  refine g_aload_n (pc' := 34) rfl rfl rfl ?_
  refine g_aload_n (pc' := 35) rfl rfl rfl ?_
  refine g_getl (pc' := 38) rfl rfl (i_11_31) ?_
  refine g_vl (y := p.2) (by show am_wl m.2 53 30 (p.1 * (b / g) + a * (p.2 / g)) 53 31 = p.2; rw [am_wl_s]; exact hp.2) ?_
  refine g_lload (pc' := 40) rfl rfl rfl ?_
  refine g_ldiv (pc' := 41) rfl rfl (g0) ?_
  refine g_lload_n (pc' := 42) rfl rfl rfl ?_
  refine g_lmul (pc' := 43) rfl rfl ?_
  refine g_putl (pc' := 46) rfl rfl (i_11_31) ?_
  refine g_aload_n (pc' := 47) rfl rfl rfl ?_
  refine g_getl (pc' := 50) rfl rfl (i_11_30) ?_
  refine g_vl (y := (p.1 * (b / g) + a * (p.2 / g))) (by show am_wl (am_wl m.2 53 30 (p.1 * (b / g) + a * (p.2 / g))) 53 31 (p.2 / g * b) 53 30 = (p.1 * (b / g) + a * (p.2 / g)); rw [am_wl_s, am_wl_s]; rfl) ?_
  refine g_aload_n (pc' := 51) rfl rfl rfl ?_
  refine g_getl (pc' := 54) rfl rfl (i_11_31) ?_
  refine g_vl (y := (p.2 / g * b)) (by show am_wl (am_wl m.2 53 30 (p.1 * (b / g) + a * (p.2 / g))) 53 31 (p.2 / g * b) 53 31 = (p.2 / g * b); rw [am_wl_s]; rfl) ?_
  refine g_calll (pc' := 57) rfl rfl rfl rfl (Or.inl rfl) ?_
  refine d_divisor he ?_
  refine g_lstore (pc' := 59) rfl rfl rfl ?_
  refine g_aload_n (pc' := 60) rfl rfl rfl ?_
  refine g_dup (pc' := 61) rfl rfl rfl ?_
  refine g_getl (pc' := 64) rfl rfl (i_11_30) ?_
  refine g_vl (y := (p.1 * (b / g) + a * (p.2 / g))) (by show am_wl (am_wl m.2 53 30 (p.1 * (b / g) + a * (p.2 / g))) 53 31 (p.2 / g * b) 53 30 = (p.1 * (b / g) + a * (p.2 / g)); rw [am_wl_s, am_wl_s]; rfl) ?_
  refine g_lload (pc' := 66) rfl rfl rfl ?_
  refine g_ldiv (pc' := 67) rfl rfl (e0) ?_
  refine g_putl (pc' := 70) rfl rfl (i_11_30) ?_
  refine g_aload_n (pc' := 71) rfl rfl rfl ?_
  refine g_dup (pc' := 72) rfl rfl rfl ?_
  refine g_getl (pc' := 75) rfl rfl (i_11_31) ?_
  refine g_vl (y := (p.2 / g * b)) (by show am_wl (am_wl (am_wl m.2 53 30 (p.1 * (b / g) + a * (p.2 / g))) 53 31 (p.2 / g * b)) 53 30 ((p.1 * (b / g) + a * (p.2 / g)) / e) 53 31 = (p.2 / g * b); rw [am_wl_s, am_wl_s]; rfl) ?_
  refine g_lload (pc' := 77) rfl rfl rfl ?_
  refine g_ldiv (pc' := 78) rfl rfl (e0) ?_
  refine g_putl (pc' := 81) rfl rfl (i_11_31) ?_
  exact g_return rfl rfl (h _ (FL.rf.w.w.w.w) (by rw [ep]; unfold FRM; dsimp only; rw [am_wl_s, am_wl_s, am_wl_s, am_wl_s]; exact ⟨rfl, rfl⟩))
theorem d_addWins {K : aMem → Prop} {n x k : Nat} {p p' : aFr} (hn : n < 6) (hk : k < 6) (hx : x < 2 ^ n) (hp : FRM m p) (ha : acM n x p k = some p') (h : ∀ m', FL m m' → FRM m' p' → K m') : gCv X 169 [.ref 53, .int (nI n), .int (nI x), .int (nI k)] m K := by
  refine g_inV rfl ?_
  obtain ⟨a1, a2, a3⟩ := p2_k n hn
  obtain ⟨b1, b2, b3⟩ := p2_k k hk
  refine g_iconst (pc' := 1) (v := 1) rfl rfl (by decide) ?_
  refine g_iload_n (pc' := 2) rfl rfl rfl ?_
  refine g_ishl (pc' := 3) rfl rfl ?_
  refine g_vi (y := nI (2 ^ n)) (bit_nI (by omega)) ?_
  refine g_istore (pc' := 5) rfl rfl rfl ?_
  refine g_iconst (pc' := 6) (v := 1) rfl rfl (by decide) ?_
  refine g_iload_n (pc' := 7) rfl rfl rfl ?_
  refine g_ishl (pc' := 8) rfl rfl ?_
  refine g_iconst (pc' := 9) (v := 1) rfl rfl (by decide) ?_
  refine g_isub (pc' := 10) rfl rfl ?_
  refine g_vi (y := nI (2 ^ k - 1)) (b1) ?_
  refine g_istore (pc' := 12) rfl rfl rfl ?_
  refine g_aload_n (pc' := 13) rfl rfl rfl ?_
  refine g_iload (pc' := 15) rfl rfl rfl ?_
  refine g_iconst (pc' := 16) (v := 1) rfl rfl (by decide) ?_
  refine g_isub (pc' := 17) rfl rfl ?_
  refine g_vi (y := nI (2 ^ n - 1)) (pk_sub (a := 2 ^ n) (b := 1) (by omega)) ?_
  refine g_iload_n (pc' := 18) rfl rfl rfl ?_
  refine g_isub (pc' := 19) rfl rfl ?_
  refine g_vi (y := nI (2 ^ n - 1 - x)) (pk_sub (by omega)) ?_
  refine g_iload (pc' := 21) rfl rfl rfl ?_
  refine g_calll (pc' := 24) rfl rfl rfl rfl (Or.inl rfl) ?_
  refine d_choose (by omega) (by omega) ?_
  refine g_iload (pc' := 26) rfl rfl rfl ?_
  refine g_iconst (pc' := 27) (v := 1) rfl rfl (by decide) ?_
  refine g_isub (pc' := 28) rfl rfl ?_
  refine g_vi (y := nI (2 ^ n - 1)) (pk_sub (a := 2 ^ n) (b := 1) (by omega)) ?_
  refine g_iload (pc' := 30) rfl rfl rfl ?_
  refine g_calll (pc' := 33) rfl rfl rfl rfl (Or.inl rfl) ?_
  refine d_choose (by omega) (by omega) ?_
  refine g_callv (pc' := 36) rfl rfl rfl rfl (Or.inr rfl) ?_
  refine d_madd hp ha (fun m1 f1 r1 => ?_)
  exact g_return rfl rfl (h m1 f1 r1)
theorem d_lotL0 {Q : Option Value → aMem → Prop} {a b c : Nat} {v : Int32} {P : aFr} (ha : a < 6) (hb : b < 2 ^ a) (hc : c ≤ a) (hFM : lotM a b (fun j => j == c) (a + 1) = some P) (h : ∀ m', FL m m' → FRM m' P → gG X 170 119 [.ref 53, .int (nI a), .int (nI b), .int (nI c), .int 0, .int v, .int (nI (a + 1))] [] m' Q) : ∀ (d i : Nat) (m1 : aMem) (p : aFr), i + d = a + 1 → FL m m1 → FRM m1 p → lotM a b (fun j => j == c) i = some p → gG X 170 77 [.ref 53, .int (nI a), .int (nI b), .int (nI c), .int 0, .int v, .int (nI i)] [] m1 Q := by
  intro d
  induction d with
  | zero =>
    intro i m1 p hd hF hR hl
    have hi : i = a + 1 := by omega
    subst hi
    rw [hFM] at hl
    have e := Option.some.inj hl
    subst e
    refine g_iload (pc' := 79) rfl rfl rfl ?_
    refine g_iload_n (pc' := 80) rfl rfl rfl ?_
    refine g_icmp_gt (pc' := 83) (t := 119) rfl rfl rfl (fun c_80 => ?_) (fun c_80 => absurd (i_nlt_le c_80) (nI_ge (Nat.lt_succ_self a) (by omega)))
    exact h m1 hF hR
  | succ d ih =>
    intro i m1 p hd hF hR hl
    refine g_iload (pc' := 79) rfl rfl rfl ?_
    refine g_iload_n (pc' := 80) rfl rfl rfl ?_
    refine g_icmp_gt (pc' := 83) (t := 119) rfl rfl rfl (fun c_80 => absurd (nI_le (a := i) (b := a) (by omega) (by omega)) (i_lt_nle c_80)) (fun c_80 => ?_)
    refine g_iload (pc' := 85) rfl rfl rfl ?_
    refine g_if_ne (pc' := 88) (t := 94) rfl rfl rfl (fun c => absurd c (by decide)) (fun _ => ?_)
    refine g_iload (pc' := 90) rfl rfl rfl ?_
    refine g_iload_n (pc' := 91) rfl rfl rfl ?_
    refine g_icmp_eq (pc' := 94) (t := 105) rfl rfl rfl (fun c_91 => ?_) (fun c_91 => ?_)
    · obtain ⟨p', hp'⟩ := lot_pre (i := i + 1) (d := d) (by rw [show i + 1 + d = a + 1 by omega]; exact hFM)
      have hac : acM a b p i = some p' := by
        have e : lotM a b (fun j => j == c) (i + 1) = lmS a b (fun j => j == c) i (lotM a b (fun j => j == c) i) := rfl
        rw [e, hl] at hp'
        unfold lmS at hp'
        dsimp only at hp'
        rw [if_pos (by rw [beq_iff_eq]; exact (nI_eq (by omega) (by omega)).mp c_91)] at hp'
        exact hp'
      refine g_aload_n (pc' := 106) rfl rfl rfl ?_
      refine g_iload_n (pc' := 107) rfl rfl rfl ?_
      refine g_iload_n (pc' := 108) rfl rfl rfl ?_
      refine g_iload (pc' := 110) rfl rfl rfl ?_
      refine g_callv (pc' := 113) rfl rfl rfl rfl (Or.inr rfl) ?_
      refine d_addWins ha (by omega) hb hR hac (fun m2 f2 r2 => ?_)
      refine g_iinc (pc' := 116) (v := nI (i + 1)) rfl rfl rfl (nI_1 i) rfl ?_
      refine g_goto (pc' := 77) rfl rfl ?_
      exact ih (i + 1) m2 p' (by omega) (hF.tr f2) r2 hp'
    · refine g_iload (pc' := 96) rfl rfl rfl ?_
      refine g_iconst (pc' := 97) (v := 1) rfl rfl (by decide) ?_
      refine g_icmp_ne (pc' := 100) (t := 113) rfl rfl rfl (fun _ => ?_) (fun c => absurd c (by decide))
      refine g_iinc (pc' := 116) (v := nI (i + 1)) rfl rfl rfl (nI_1 i) rfl ?_
      refine g_goto (pc' := 77) rfl rfl ?_
      exact ih (i + 1) m1 p (by omega) hF hR (by
        have e : lotM a b (fun j => j == c) (i + 1) = lmS a b (fun j => j == c) i (lotM a b (fun j => j == c) i) := rfl
        rw [e, hl]
        unfold lmS
        dsimp only
        rw [if_neg (by rw [beq_iff_eq]; exact fun z => c_91 (by rw [z]))])
theorem d_lotL1 {Q : Option Value → aMem → Prop} {a b c : Nat} {v : Int32} {P : aFr} (ha : a < 6) (hb : b < 2 ^ a) (hc : c ≤ a) (hFM : lotM a b (fun j => decide (0 < j)) (a + 1) = some P) (h : ∀ m', FL m m' → FRM m' P → gG X 170 119 [.ref 53, .int (nI a), .int (nI b), .int (nI c), .int 1, .int v, .int (nI (a + 1))] [] m' Q) : ∀ (d i : Nat) (m1 : aMem) (p : aFr), i + d = a + 1 → FL m m1 → FRM m1 p → lotM a b (fun j => decide (0 < j)) i = some p → gG X 170 77 [.ref 53, .int (nI a), .int (nI b), .int (nI c), .int 1, .int v, .int (nI i)] [] m1 Q := by
  intro d
  induction d with
  | zero =>
    intro i m1 p hd hF hR hl
    have hi : i = a + 1 := by omega
    subst hi
    rw [hFM] at hl
    have e := Option.some.inj hl
    subst e
    refine g_iload (pc' := 79) rfl rfl rfl ?_
    refine g_iload_n (pc' := 80) rfl rfl rfl ?_
    refine g_icmp_gt (pc' := 83) (t := 119) rfl rfl rfl (fun c_80 => ?_) (fun c_80 => absurd (i_nlt_le c_80) (nI_ge (Nat.lt_succ_self a) (by omega)))
    exact h m1 hF hR
  | succ d ih =>
    intro i m1 p hd hF hR hl
    refine g_iload (pc' := 79) rfl rfl rfl ?_
    refine g_iload_n (pc' := 80) rfl rfl rfl ?_
    refine g_icmp_gt (pc' := 83) (t := 119) rfl rfl rfl (fun c_80 => absurd (nI_le (a := i) (b := a) (by omega) (by omega)) (i_lt_nle c_80)) (fun c_80 => ?_)
    refine g_iload (pc' := 85) rfl rfl rfl ?_
    refine g_if_ne (pc' := 88) (t := 94) rfl rfl rfl (fun _ => ?_) (fun c => absurd c (by decide))
    refine g_iload (pc' := 96) rfl rfl rfl ?_
    refine g_iconst (pc' := 97) (v := 1) rfl rfl (by decide) ?_
    refine g_icmp_ne (pc' := 100) (t := 113) rfl rfl rfl (fun c => absurd c (by decide)) (fun _ => ?_)
    refine g_iload (pc' := 102) rfl rfl rfl ?_
    refine g_if_le (pc' := 105) (t := 113) rfl rfl rfl (fun c_102 => ?_) (fun c_102 => ?_)
    · refine g_iinc (pc' := 116) (v := nI (i + 1)) rfl rfl rfl (nI_1 i) rfl ?_
      refine g_goto (pc' := 77) rfl rfl ?_
      exact ih (i + 1) m1 p (by omega) hF hR (by
        have e : lotM a b (fun j => decide (0 < j)) (i + 1) = lmS a b (fun j => decide (0 < j)) i (lotM a b (fun j => decide (0 < j)) i) := rfl
        rw [e, hl]
        unfold lmS
        dsimp only
        rw [if_neg (by rw [decide_eq_true_eq]; exact fun z => nI_ge (a := 0) z (by omega) c_102)])
    · obtain ⟨p', hp'⟩ := lot_pre (i := i + 1) (d := d) (by rw [show i + 1 + d = a + 1 by omega]; exact hFM)
      have hac : acM a b p i = some p' := by
        have e : lotM a b (fun j => decide (0 < j)) (i + 1) = lmS a b (fun j => decide (0 < j)) i (lotM a b (fun j => decide (0 < j)) i) := rfl
        rw [e, hl] at hp'
        unfold lmS at hp'
        dsimp only at hp'
        rw [if_pos (by rw [decide_eq_true_eq]; exact Nat.pos_of_ne_zero (fun z => c_102 (by rw [z]; decide)))] at hp'
        exact hp'
      refine g_aload_n (pc' := 106) rfl rfl rfl ?_
      refine g_iload_n (pc' := 107) rfl rfl rfl ?_
      refine g_iload_n (pc' := 108) rfl rfl rfl ?_
      refine g_iload (pc' := 110) rfl rfl rfl ?_
      refine g_callv (pc' := 113) rfl rfl rfl rfl (Or.inr rfl) ?_
      refine d_addWins ha (by omega) hb hR hac (fun m2 f2 r2 => ?_)
      refine g_iinc (pc' := 116) (v := nI (i + 1)) rfl rfl rfl (nI_1 i) rfl ?_
      refine g_goto (pc' := 77) rfl rfl ?_
      exact ih (i + 1) m2 p' (by omega) (hF.tr f2) r2 hp'
end L4
