/-! LOTS: the class's answer -/
def lotP (n x k : Nat) (w : Int32) : aFr := if w = 0 then acC n x (0, 1) k else meC n x n
def r_lot (A : aA) (n x k w v : Int32) : Int64 × aA := if ¬ (1 ≤ n ∧ n ≤ 5) ∨ ¬ (0 ≤ x ∧ x ≤ 1 <<< (n &&& 31) - 1) ∨ ¬ (0 ≤ k ∧ k ≤ n) ∨ ¬ (0 ≤ w ∧ w ≤ 1) ∨ ¬ (0 ≤ v ∧ v ≤ 1) then (-1000000000000000002, A) else (if v = 0 then (lotP (ix n) (ix x) (ix k) w).1 else (lotP (ix n) (ix x) (ix k) w).2, A)
section L2
variable {X : aX} {m : aMem} {A : aA} {K : Int64 → aMem → Prop}
theorem cfl {r : Int64 × aA} {v : Int64} {A' : aA} (h : ∀ m', Fr 1 53 m m' → CI m' r.2 → K r.1 m') (e : r = (v, A')) {m' : aMem} (f : Fr 1 53 m m') (c : CI m' A') : K v m' := by
  rw [e] at h; exact h m' f c
theorem lot_in {n x k w v : Int32} (p : 1 ≤ n ∧ n ≤ 5) (q : 0 ≤ x ∧ x ≤ 1 <<< (n &&& 31) - 1) (r : 0 ≤ k ∧ k ≤ n) (s : 0 ≤ w ∧ w ≤ 1) (t : 0 ≤ v ∧ v ≤ 1) : ∃ a b c, 1 ≤ a ∧ a < 6 ∧ b < 2 ^ a ∧ c ≤ a ∧ n = nI a ∧ x = nI b ∧ k = nI c ∧ r_lot A n x k w v = (if v = 0 then (lotP a b c w).1 else (lotP a b c w).2, A) := by
  obtain ⟨j, hj, ej⟩ := i_rng (a := 1) (b := 5) rfl rfl (by decide) (by decide) p.1 p.2
  obtain ⟨e1, e2, e3⟩ := p2_k (1 + j) (by omega)
  have ex : (1 : Int32) <<< (n &&& 31) - 1 = nI (2 ^ (1 + j) - 1) := by rw [ej]; exact e1
  obtain ⟨b, hb, eb⟩ := i_rng (a := 0) (b := 2 ^ (1 + j) - 1) rfl ex (by omega) (by omega) q.1 q.2
  obtain ⟨c, hc, ec⟩ := i_rng (a := 0) (b := 1 + j) rfl ej (by omega) (by omega) r.1 r.2
  rw [Nat.zero_add] at eb ec
  refine ⟨1 + j, b, c, by omega, by omega, by omega, by omega, ej, eb, ec, ?_⟩
  unfold r_lot
  rw [if_neg (fun z => z.elim (nn p) (fun z => z.elim (nn q) (fun z => z.elim (nn r) (fun z => z.elim (nn s) (nn t))))), ej, eb, ec, ix_nI (by omega), ix_nI (by omega), ix_nI (by omega)]
theorem c_lot {n x k w v : Int32} (hC : CI m A) (h : ∀ m', Fr 1 53 m m' → CI m' (r_lot A n x k w v).2 → K (r_lot A n x k w v).1 m') : gCl X 95 [.ref 1, .int n, .int x, .int k, .int w, .int v] m K := by
  refine g_inL rfl ?_
  refine g_iload_n (pc' := 1) rfl rfl rfl ?_
  refine g_iconst (pc' := 2) (v := 1) rfl rfl (by decide) ?_
  refine g_iconst (pc' := 3) (v := 5) rfl rfl (by decide) ?_
  refine g_calli (pc' := 6) rfl rfl rfl rfl (Or.inl rfl) ?_
  refine c_isWithin (fun p1 p2 => ?_) (fun p0 => ?_)
  · refine g_if_eq (pc' := 9) (t := 31) rfl rfl rfl (fun c => absurd c (by decide)) (fun _ => ?_)
    refine g_iload_n (pc' := 10) rfl rfl rfl ?_
    refine g_iconst (pc' := 11) (v := 0) rfl rfl (by decide) ?_
    refine g_iconst (pc' := 12) (v := 1) rfl rfl (by decide) ?_
    refine g_iload_n (pc' := 13) rfl rfl rfl ?_
    refine g_ishl (pc' := 14) rfl rfl ?_
    refine g_iconst (pc' := 15) (v := 1) rfl rfl (by decide) ?_
    refine g_isub (pc' := 16) rfl rfl ?_
    refine g_calli (pc' := 19) rfl rfl rfl rfl (Or.inl rfl) ?_
    refine c_isWithin (fun q1 q2 => ?_) (fun q0 => ?_)
    · refine g_if_eq (pc' := 22) (t := 31) rfl rfl rfl (fun c => absurd c (by decide)) (fun _ => ?_)
      refine g_iload_n (pc' := 23) rfl rfl rfl ?_
      refine g_iconst (pc' := 24) (v := 0) rfl rfl (by decide) ?_
      refine g_iload_n (pc' := 25) rfl rfl rfl ?_
      refine g_calli (pc' := 28) rfl rfl rfl rfl (Or.inl rfl) ?_
      refine c_isWithin (fun r1 r2 => ?_) (fun r0 => ?_)
      · refine g_if_ne (pc' := 31) (t := 35) rfl rfl rfl (fun _ => ?_) (fun c => absurd c (by decide))
        refine g_iload (pc' := 37) rfl rfl rfl ?_
        refine g_iconst (pc' := 38) (v := 0) rfl rfl (by decide) ?_
        refine g_iconst (pc' := 39) (v := 1) rfl rfl (by decide) ?_
        refine g_calli (pc' := 42) rfl rfl rfl rfl (Or.inl rfl) ?_
        refine c_isWithin (fun s1 s2 => ?_) (fun s0 => ?_)
        · refine g_if_eq (pc' := 45) (t := 55) rfl rfl rfl (fun c => absurd c (by decide)) (fun _ => ?_)
          refine g_iload (pc' := 47) rfl rfl rfl ?_
          refine g_iconst (pc' := 48) (v := 0) rfl rfl (by decide) ?_
          refine g_iconst (pc' := 49) (v := 1) rfl rfl (by decide) ?_
          refine g_calli (pc' := 52) rfl rfl rfl rfl (Or.inl rfl) ?_
          refine c_isWithin (fun t1 t2 => ?_) (fun t0 => ?_)
          · refine g_if_ne (pc' := 55) (t := 59) rfl rfl rfl (fun _ => ?_) (fun c => absurd c (by decide))
            obtain ⟨a, b, c, ha1, ha, hb, hc, en, ex, ek, er⟩ := lot_in (A := A) ⟨p1, p2⟩ ⟨q1, q2⟩ ⟨r1, r2⟩ ⟨s1, s2⟩ ⟨t1, t2⟩
            subst en
            subst ex
            subst ek
            refine g_iload (pc' := 61) rfl rfl rfl ?_
            refine g_if_ne (pc' := 64) (t := 77) rfl rfl rfl (fun c_61 => ?_) (fun c_61 => ?_)
            · refine g_aload_n (pc' := 78) rfl rfl rfl ?_
              refine g_getr (pc' := 81) rfl rfl (f_10_9) ?_
              refine g_iload_n (pc' := 82) rfl rfl rfl ?_
              refine g_iload_n (pc' := 83) rfl rfl rfl ?_
              refine g_callv (pc' := 86) rfl rfl rfl rfl (Or.inl rfl) ?_
              refine c_putMean ha hb (fun m1 f1 g1 => ?_)
              refine g_iload (pc' := 88) rfl rfl rfl ?_
              refine g_if_ne (pc' := 91) (t := 101) rfl rfl rfl (fun c_88 => ?_) (fun c_88 => ?_)
              · refine g_aload_n (pc' := 102) rfl rfl rfl ?_
                refine g_getr (pc' := 105) rfl rfl (f_10_9) ?_
                refine g_getl (pc' := 108) rfl rfl (i_1_1) ?_
                refine g_vl (y := (lotP a b c w).2) (by unfold lotP; rw [if_neg c_61]; exact g1.2) ?_
                exact g_lreturn rfl rfl (by have := cfl h er (f1.wide (by decide) (by decide)) (hC.fr f1 (by omega)); rw [if_neg c_88] at this; exact this)
              · refine g_aload_n (pc' := 92) rfl rfl rfl ?_
                refine g_getr (pc' := 95) rfl rfl (f_10_9) ?_
                refine g_getl (pc' := 98) rfl rfl (i_1_0) ?_
                refine g_vl (y := (lotP a b c w).1) (by unfold lotP; rw [if_neg c_61]; exact g1.1) ?_
                refine g_goto (pc' := 108) rfl rfl ?_
                exact g_lreturn rfl rfl (by have := cfl h er (f1.wide (by decide) (by decide)) (hC.fr f1 (by omega)); rw [if_pos c_88] at this; exact this)
            · refine g_aload_n (pc' := 65) rfl rfl rfl ?_
              refine g_getr (pc' := 68) rfl rfl (f_10_9) ?_
              refine g_iload_n (pc' := 69) rfl rfl rfl ?_
              refine g_iload_n (pc' := 70) rfl rfl rfl ?_
              refine g_iload_n (pc' := 71) rfl rfl rfl ?_
              refine g_callv (pc' := 74) rfl rfl rfl rfl (Or.inl rfl) ?_
              refine c_putChance ha (by omega) hb (fun m1 f1 g1 => ?_)
              refine g_goto (pc' := 86) rfl rfl ?_
              refine g_iload (pc' := 88) rfl rfl rfl ?_
              refine g_if_ne (pc' := 91) (t := 101) rfl rfl rfl (fun c_88 => ?_) (fun c_88 => ?_)
              · refine g_aload_n (pc' := 102) rfl rfl rfl ?_
                refine g_getr (pc' := 105) rfl rfl (f_10_9) ?_
                refine g_getl (pc' := 108) rfl rfl (i_1_1) ?_
                refine g_vl (y := (lotP a b c w).2) (by unfold lotP; rw [if_pos c_61]; exact g1.2) ?_
                exact g_lreturn rfl rfl (by have := cfl h er (f1.wide (by decide) (by decide)) (hC.fr f1 (by omega)); rw [if_neg c_88] at this; exact this)
              · refine g_aload_n (pc' := 92) rfl rfl rfl ?_
                refine g_getr (pc' := 95) rfl rfl (f_10_9) ?_
                refine g_getl (pc' := 98) rfl rfl (i_1_0) ?_
                refine g_vl (y := (lotP a b c w).1) (by unfold lotP; rw [if_pos c_61]; exact g1.1) ?_
                refine g_goto (pc' := 108) rfl rfl ?_
                exact g_lreturn rfl rfl (by have := cfl h er (f1.wide (by decide) (by decide)) (hC.fr f1 (by omega)); rw [if_pos c_88] at this; exact this)
          · refine g_if_ne (pc' := 55) (t := 59) rfl rfl rfl (fun c => absurd c (by decide)) (fun _ => ?_)
            refine g_ldc2_w (pc' := 58) (v := -1000000000000000002) rfl rfl (by decide) ?_
            exact g_lreturn rfl rfl (cfl h (by unfold r_lot; rw [if_pos (Or.inr (Or.inr (Or.inr (Or.inr t0))))]) Fr.rf hC)
        · refine g_if_eq (pc' := 45) (t := 55) rfl rfl rfl (fun _ => ?_) (fun c => absurd c (by decide))
          refine g_ldc2_w (pc' := 58) (v := -1000000000000000002) rfl rfl (by decide) ?_
          exact g_lreturn rfl rfl (cfl h (by unfold r_lot; rw [if_pos (Or.inr (Or.inr (Or.inr (Or.inl s0))))]) Fr.rf hC)
      · refine g_if_ne (pc' := 31) (t := 35) rfl rfl rfl (fun c => absurd c (by decide)) (fun _ => ?_)
        refine g_ldc2_w (pc' := 34) (v := -1000000000000000002) rfl rfl (by decide) ?_
        exact g_lreturn rfl rfl (cfl h (by unfold r_lot; rw [if_pos (Or.inr (Or.inr (Or.inl r0)))]) Fr.rf hC)
    · refine g_if_eq (pc' := 22) (t := 31) rfl rfl rfl (fun _ => ?_) (fun c => absurd c (by decide))
      refine g_ldc2_w (pc' := 34) (v := -1000000000000000002) rfl rfl (by decide) ?_
      exact g_lreturn rfl rfl (cfl h (by unfold r_lot; rw [if_pos (Or.inr (Or.inl q0))]) Fr.rf hC)
  · refine g_if_eq (pc' := 9) (t := 31) rfl rfl rfl (fun _ => ?_) (fun c => absurd c (by decide))
    refine g_ldc2_w (pc' := 34) (v := -1000000000000000002) rfl rfl (by decide) ?_
    exact g_lreturn rfl rfl (cfl h (by unfold r_lot; rw [if_pos (Or.inl p0)]) Fr.rf hC)
end L2
