/-! CUPS: two meet -/
def fiP (s : aStr) (p q : Nat × Nat) : Nat × Nat := if (ftN s p.1 q.1 5 0 p.2 q.2).1 < 3 then (p.1, (ftN s p.1 q.1 5 0 p.2 q.2).1) else (q.1, (ftN s p.1 q.1 5 0 p.2 q.2).2.1)
def meP (s : aStr) (p q : Nat × Nat) : Nat × Nat := if p.1 < q.1 then fiP s p q else fiP s q p
def okF (p : Nat × Nat) : Prop := p.1 < 10 ∧ p.2 < 3
theorem fi_ok {s : aStr} {p q : Nat × Nat} (hp : okF p) (hq : okF q) : okF (fiP s p q) ∧ ((fiP s p q).1 = p.1 ∨ (fiP s p q).1 = q.1) := by
  obtain ⟨hO, -, -, -⟩ := ft_out (s := s) (a := p.1) (b := q.1) 5 0 p.2 q.2 (by have := hp.2; omega) (by have := hq.2; omega) (by have := hp.2; have := hq.2; omega) (by omega)
  unfold fiP
  by_cases h : (ftN s p.1 q.1 5 0 p.2 q.2).1 < 3
  · rw [if_pos h]; exact ⟨⟨hp.1, h⟩, Or.inl rfl⟩
  · rw [if_neg h]; exact ⟨⟨hq.1, by show (ftN s p.1 q.1 5 0 p.2 q.2).2.1 < 3; omega⟩, Or.inr rfl⟩
theorem me_ok {s : aStr} {p q : Nat × Nat} (hp : okF p) (hq : okF q) : okF (meP s p q) ∧ ((meP s p q).1 = p.1 ∨ (meP s p q).1 = q.1) := by
  unfold meP
  split
  · exact fi_ok hp hq
  · have := fi_ok (s := s) hq hp
    exact ⟨this.1, this.2.symm⟩
theorem fi_duel {s : aStr} {p q : Nat × Nat} (hp : okF p) (hq : okF q) : duelN s 5 p.1 p.2 q.1 q.2 = 4 * (fiP s p q).1 + (fiP s p q).2 := by
  rw [(ft_duel (s := s) (a := p.1) (b := q.1) 5 0 p.2 q.2 hp.2 hq.2 (by omega)).1 rfl]
  unfold winF fiP
  split <;> rfl
section K1
variable {X : aX} {m : aMem} {A : aA} {K : Int32 → aMem → Prop}
theorem c_meet {p q : Nat × Nat} (hp : okF p) (hq : okF q) (h : K (nI (4 * (meP (stAt m 2) p q).1 + (meP (stAt m 2) p q).2)) m) : gCi X 5 [.ref 2, .int (nI (4 * p.1 + p.2)), .int (nI (4 * q.1 + q.2))] m K := by
  refine g_inI rfl ?_
  obtain ⟨hp1, hp2⟩ := hp
  obtain ⟨hq1, hq2⟩ := hq
  refine g_iload_n (pc' := 1) rfl rfl rfl ?_
  refine g_calli (pc' := 4) rfl rfl rfl rfl (Or.inl rfl) ?_
  refine c_nutOf (by omega) (by omega) ?_
  refine g_iload_n (pc' := 5) rfl rfl rfl ?_
  refine g_calli (pc' := 8) rfl rfl rfl rfl (Or.inl rfl) ?_
  refine c_nutOf (by omega) (by omega) ?_
  refine g_icmp_ge (pc' := 11) (t := 20) rfl rfl rfl (fun c_8 => ?_) (fun c_8 => ?_)
  · refine g_aload_n (pc' := 21) rfl rfl rfl ?_
    refine g_iload_n (pc' := 22) rfl rfl rfl ?_
    refine g_iload_n (pc' := 23) rfl rfl rfl ?_
    refine g_calli (pc' := 26) rfl rfl rfl rfl (Or.inr (rc_S isS_2)) ?_
    refine c_duel isS_2 hq1 hq2 hp1 hp2 ?_
    exact g_ireturn rfl rfl (g_eq h (by rw [fi_duel ⟨hq1, hq2⟩ ⟨hp1, hp2⟩, meP, if_neg (fun z => nI_ge z (by omega) c_8)]) rfl)
  · refine g_aload_n (pc' := 12) rfl rfl rfl ?_
    refine g_iload_n (pc' := 13) rfl rfl rfl ?_
    refine g_iload_n (pc' := 14) rfl rfl rfl ?_
    refine g_calli (pc' := 17) rfl rfl rfl rfl (Or.inr (rc_S isS_2)) ?_
    refine c_duel isS_2 hp1 hp2 hq1 hq2 ?_
    refine g_goto (pc' := 26) rfl rfl ?_
    exact g_ireturn rfl rfl (g_eq h (by rw [fi_duel ⟨hp1, hp2⟩ ⟨hq1, hq2⟩, meP, if_pos (Nat.not_le.mp (fun z => c_8 (nI_le z (by omega))))]) rfl)
-- model
theorem d_meet {p q : Nat × Nat} (hp : okF p) (hq : okF q) (hne : p.1 ≠ q.1) (h : ∀ m', SL m m' → K (nI (10 * (meP (stAt m 53) p q).1 + (meP (stAt m 53) p q).2)) m') : gCi X 149 [.ref 53, .int (nI (10 * p.1 + p.2)), .int (nI (10 * q.1 + q.2))] m K := by
  refine g_inI rfl ?_
  obtain ⟨hp1, hp2⟩ := hp
  obtain ⟨hq1, hq2⟩ := hq
  refine g_iload_n (pc' := 1) rfl rfl rfl ?_
  refine g_iload_n (pc' := 2) rfl rfl rfl ?_
  refine g_icmp_ge (pc' := 5) (t := 9) rfl rfl rfl (fun c_2 => ?_) (fun c_2 => ?_)
  · refine g_iload_n (pc' := 10) rfl rfl rfl ?_
    refine g_istore_n (pc' := 11) rfl rfl rfl ?_
    refine g_iload_n (pc' := 12) rfl rfl rfl ?_
    refine g_iload_n (pc' := 13) rfl rfl rfl ?_
    refine g_icmp_ge (pc' := 16) (t := 20) rfl rfl rfl (fun c_13 => ?_) (fun c_13 => absurd c_2 c_13)
    refine g_iload_n (pc' := 21) rfl rfl rfl ?_
    have hlt : q.1 < p.1 := by
      have z := (nI_leI (by omega) (by omega)).mp c_2
      omega
    refine g_istore (pc' := 23) rfl rfl rfl ?_
    refine g_aload_n (pc' := 24) rfl rfl rfl ?_
    refine g_iload_n (pc' := 25) rfl rfl rfl ?_
    refine g_bipush (pc' := 27) (v := 10) rfl rfl (by decide) ?_
    refine g_idiv (pc' := 28) rfl rfl (by decide) ?_
    refine g_vi (y := nI q.1) (by rw [show (10 : Int32) = nI 10 from rfl, i_div (by omega) (by decide) (by decide)]; congr 1; omega) ?_
    refine g_iload_n (pc' := 29) rfl rfl rfl ?_
    refine g_bipush (pc' := 31) (v := 10) rfl rfl (by decide) ?_
    refine g_irem (pc' := 32) rfl rfl (by decide) ?_
    refine g_vi (y := nI q.2) (by rw [show (10 : Int32) = nI 10 from rfl, i_rem (by omega) (by decide) (by decide)]; congr 1; omega) ?_
    refine g_iload (pc' := 34) rfl rfl rfl ?_
    refine g_bipush (pc' := 36) (v := 10) rfl rfl (by decide) ?_
    refine g_idiv (pc' := 37) rfl rfl (by decide) ?_
    refine g_vi (y := nI p.1) (by rw [show (10 : Int32) = nI 10 from rfl, i_div (by omega) (by decide) (by decide)]; congr 1; omega) ?_
    refine g_iload (pc' := 39) rfl rfl rfl ?_
    refine g_bipush (pc' := 41) (v := 10) rfl rfl (by decide) ?_
    refine g_irem (pc' := 42) rfl rfl (by decide) ?_
    refine g_vi (y := nI p.2) (by rw [show (10 : Int32) = nI 10 from rfl, i_rem (by omega) (by decide) (by decide)]; congr 1; omega) ?_
    refine g_callv (pc' := 45) rfl rfl rfl rfl (Or.inr rfl) ?_
    refine d_fightOut (R := ftN (stAt m 53) q.1 p.1 5 0 q.2 p.2) hq1 hp1 hq2 hp2 rfl (fun m1 s1 g22 g23 g24 => ?_)
    refine g_aload_n (pc' := 46) rfl rfl rfl ?_
    refine g_geti (pc' := 49) rfl rfl (i_11_22) ?_
    refine g_vi (y := nI (ftN (stAt m 53) q.1 p.1 5 0 q.2 p.2).1) (g22) ?_
    refine g_iconst (pc' := 50) (v := 3) rfl rfl (by decide) ?_
    refine g_icmp_ge (pc' := 53) (t := 68) rfl rfl rfl (fun c_50 => ?_) (fun c_50 => ?_)
    · refine g_bipush (pc' := 70) (v := 10) rfl rfl (by decide) ?_
      refine g_iload (pc' := 72) rfl rfl rfl ?_
      refine g_bipush (pc' := 74) (v := 10) rfl rfl (by decide) ?_
      refine g_idiv (pc' := 75) rfl rfl (by decide) ?_
      refine g_vi (y := nI p.1) (by rw [show (10 : Int32) = nI 10 from rfl, i_div (by omega) (by decide) (by decide)]; congr 1; omega) ?_
      refine g_imul (pc' := 76) rfl rfl ?_
      refine g_vi (y := nI (10 * p.1)) (pk_mul 10 _) ?_
      refine g_aload_n (pc' := 77) rfl rfl rfl ?_
      refine g_geti (pc' := 80) rfl rfl (i_11_23) ?_
      refine g_vi (y := nI (ftN (stAt m 53) q.1 p.1 5 0 q.2 p.2).2.1) (g23) ?_
      refine g_iadd (pc' := 81) rfl rfl ?_
      refine g_vi (y := nI (10 * p.1 + (ftN (stAt m 53) q.1 p.1 5 0 q.2 p.2).2.1)) (nI_add _ _) ?_
      exact g_ireturn rfl rfl (g_eq (h m1 s1) (by rw [meP, if_neg (show ¬ p.1 < q.1 by omega), fiP, if_neg (fun z => nI_ge (b := 3) z (by decide) c_50)]) rfl)
    · refine g_bipush (pc' := 55) (v := 10) rfl rfl (by decide) ?_
      refine g_iload_n (pc' := 56) rfl rfl rfl ?_
      refine g_bipush (pc' := 58) (v := 10) rfl rfl (by decide) ?_
      refine g_idiv (pc' := 59) rfl rfl (by decide) ?_
      refine g_vi (y := nI q.1) (by rw [show (10 : Int32) = nI 10 from rfl, i_div (by omega) (by decide) (by decide)]; congr 1; omega) ?_
      refine g_imul (pc' := 60) rfl rfl ?_
      refine g_vi (y := nI (10 * q.1)) (pk_mul 10 _) ?_
      refine g_aload_n (pc' := 61) rfl rfl rfl ?_
      refine g_geti (pc' := 64) rfl rfl (i_11_22) ?_
      refine g_vi (y := nI (ftN (stAt m 53) q.1 p.1 5 0 q.2 p.2).1) (g22) ?_
      refine g_iadd (pc' := 65) rfl rfl ?_
      refine g_vi (y := nI (10 * q.1 + (ftN (stAt m 53) q.1 p.1 5 0 q.2 p.2).1)) (nI_add _ _) ?_
      refine g_goto (pc' := 81) rfl rfl ?_
      exact g_ireturn rfl rfl (g_eq (h m1 s1) (by rw [meP, if_neg (show ¬ p.1 < q.1 by omega), fiP, if_pos (Nat.not_le.mp (fun z => c_50 (nI_le (a := 3) z (by have := (ft_out (s := stAt m 53) (a := q.1) (b := p.1) 5 0 q.2 p.2 (by omega) (by omega) (by omega) (by omega)).1; omega))))]) rfl)
  · refine g_iload_n (pc' := 6) rfl rfl rfl ?_
    refine g_goto (pc' := 10) rfl rfl ?_
    refine g_istore_n (pc' := 11) rfl rfl rfl ?_
    refine g_iload_n (pc' := 12) rfl rfl rfl ?_
    refine g_iload_n (pc' := 13) rfl rfl rfl ?_
    refine g_icmp_ge (pc' := 16) (t := 20) rfl rfl rfl (fun c_13 => absurd c_13 c_2) (fun c_13 => ?_)
    refine g_iload_n (pc' := 17) rfl rfl rfl ?_
    refine g_goto (pc' := 21) rfl rfl ?_
    have hlt : p.1 < q.1 := by
      have z := Nat.not_le.mp (fun z => c_2 (nI_le z (by omega)))
      omega
    refine g_istore (pc' := 23) rfl rfl rfl ?_
    refine g_aload_n (pc' := 24) rfl rfl rfl ?_
    refine g_iload_n (pc' := 25) rfl rfl rfl ?_
    refine g_bipush (pc' := 27) (v := 10) rfl rfl (by decide) ?_
    refine g_idiv (pc' := 28) rfl rfl (by decide) ?_
    refine g_vi (y := nI p.1) (by rw [show (10 : Int32) = nI 10 from rfl, i_div (by omega) (by decide) (by decide)]; congr 1; omega) ?_
    refine g_iload_n (pc' := 29) rfl rfl rfl ?_
    refine g_bipush (pc' := 31) (v := 10) rfl rfl (by decide) ?_
    refine g_irem (pc' := 32) rfl rfl (by decide) ?_
    refine g_vi (y := nI p.2) (by rw [show (10 : Int32) = nI 10 from rfl, i_rem (by omega) (by decide) (by decide)]; congr 1; omega) ?_
    refine g_iload (pc' := 34) rfl rfl rfl ?_
    refine g_bipush (pc' := 36) (v := 10) rfl rfl (by decide) ?_
    refine g_idiv (pc' := 37) rfl rfl (by decide) ?_
    refine g_vi (y := nI q.1) (by rw [show (10 : Int32) = nI 10 from rfl, i_div (by omega) (by decide) (by decide)]; congr 1; omega) ?_
    refine g_iload (pc' := 39) rfl rfl rfl ?_
    refine g_bipush (pc' := 41) (v := 10) rfl rfl (by decide) ?_
    refine g_irem (pc' := 42) rfl rfl (by decide) ?_
    refine g_vi (y := nI q.2) (by rw [show (10 : Int32) = nI 10 from rfl, i_rem (by omega) (by decide) (by decide)]; congr 1; omega) ?_
    refine g_callv (pc' := 45) rfl rfl rfl rfl (Or.inr rfl) ?_
    refine d_fightOut (R := ftN (stAt m 53) p.1 q.1 5 0 p.2 q.2) hp1 hq1 hp2 hq2 rfl (fun m1 s1 g22 g23 g24 => ?_)
    refine g_aload_n (pc' := 46) rfl rfl rfl ?_
    refine g_geti (pc' := 49) rfl rfl (i_11_22) ?_
    refine g_vi (y := nI (ftN (stAt m 53) p.1 q.1 5 0 p.2 q.2).1) (g22) ?_
    refine g_iconst (pc' := 50) (v := 3) rfl rfl (by decide) ?_
    refine g_icmp_ge (pc' := 53) (t := 68) rfl rfl rfl (fun c_50 => ?_) (fun c_50 => ?_)
    · refine g_bipush (pc' := 70) (v := 10) rfl rfl (by decide) ?_
      refine g_iload (pc' := 72) rfl rfl rfl ?_
      refine g_bipush (pc' := 74) (v := 10) rfl rfl (by decide) ?_
      refine g_idiv (pc' := 75) rfl rfl (by decide) ?_
      refine g_vi (y := nI q.1) (by rw [show (10 : Int32) = nI 10 from rfl, i_div (by omega) (by decide) (by decide)]; congr 1; omega) ?_
      refine g_imul (pc' := 76) rfl rfl ?_
      refine g_vi (y := nI (10 * q.1)) (pk_mul 10 _) ?_
      refine g_aload_n (pc' := 77) rfl rfl rfl ?_
      refine g_geti (pc' := 80) rfl rfl (i_11_23) ?_
      refine g_vi (y := nI (ftN (stAt m 53) p.1 q.1 5 0 p.2 q.2).2.1) (g23) ?_
      refine g_iadd (pc' := 81) rfl rfl ?_
      refine g_vi (y := nI (10 * q.1 + (ftN (stAt m 53) p.1 q.1 5 0 p.2 q.2).2.1)) (nI_add _ _) ?_
      exact g_ireturn rfl rfl (g_eq (h m1 s1) (by rw [meP, if_pos (show p.1 < q.1 by omega), fiP, if_neg (fun z => nI_ge (b := 3) z (by decide) c_50)]) rfl)
    · refine g_bipush (pc' := 55) (v := 10) rfl rfl (by decide) ?_
      refine g_iload_n (pc' := 56) rfl rfl rfl ?_
      refine g_bipush (pc' := 58) (v := 10) rfl rfl (by decide) ?_
      refine g_idiv (pc' := 59) rfl rfl (by decide) ?_
      refine g_vi (y := nI p.1) (by rw [show (10 : Int32) = nI 10 from rfl, i_div (by omega) (by decide) (by decide)]; congr 1; omega) ?_
      refine g_imul (pc' := 60) rfl rfl ?_
      refine g_vi (y := nI (10 * p.1)) (pk_mul 10 _) ?_
      refine g_aload_n (pc' := 61) rfl rfl rfl ?_
      refine g_geti (pc' := 64) rfl rfl (i_11_22) ?_
      refine g_vi (y := nI (ftN (stAt m 53) p.1 q.1 5 0 p.2 q.2).1) (g22) ?_
      refine g_iadd (pc' := 65) rfl rfl ?_
      refine g_vi (y := nI (10 * p.1 + (ftN (stAt m 53) p.1 q.1 5 0 p.2 q.2).1)) (nI_add _ _) ?_
      refine g_goto (pc' := 81) rfl rfl ?_
      exact g_ireturn rfl rfl (g_eq (h m1 s1) (by rw [meP, if_pos (show p.1 < q.1 by omega), fiP, if_pos (Nat.not_le.mp (fun z => c_50 (nI_le (a := 3) z (by have := (ft_out (s := stAt m 53) (a := p.1) (b := q.1) 5 0 p.2 q.2 (by omega) (by omega) (by omega) (by omega)).1; omega))))]) rfl)
end K1
