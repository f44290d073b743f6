/-! LOTS: the model's answer, whole -/
section L5
variable {X : aX} {m : aMem} {A : aA} {K : Int64 → aMem → Prop}
theorem mfl {r : Int64 × aA} {v : Int64} {A' : aA} (h : ∀ m', Fr 53 73 m m' → MI m' r.2 → K r.1 m') (e : r = (v, A')) {m' : aMem} (f : Fr 53 73 m m') (c : MI m' A') : K v m' := by
  rw [e] at h; exact h m' f c
theorem d_lot {n x k w v : Int32} (hM : MI m A) (h : ∀ m', Fr 53 73 m m' → MI m' (r_lot A n x k w v).2 → K (r_lot A n x k w v).1 m') : gCl X 170 [.ref 53, .int n, .int x, .int k, .int w, .int v] m K := by
  refine g_inL rfl ?_
  refine g_iload_n (pc' := 1) rfl rfl rfl ?_
  refine g_i2l (pc' := 2) rfl rfl ?_
  refine g_lconst (pc' := 3) (v := 1) rfl rfl (by decide) ?_
  refine g_ldc2_w (pc' := 6) (v := 5) rfl rfl (by decide) ?_
  refine g_calli (pc' := 9) rfl rfl rfl rfl (Or.inl rfl) ?_
  refine d_in (lo := 1) (hi := 5) (by decide) (by decide) (fun p1 p2 => ?_) (fun p0 => ?_)
  · refine g_if_eq (pc' := 12) (t := 60) rfl rfl rfl (fun c => absurd c (by decide)) (fun _ => ?_)
    refine g_iload_n (pc' := 13) rfl rfl rfl ?_
    refine g_i2l (pc' := 14) rfl rfl ?_
    refine g_lconst (pc' := 15) (v := 0) rfl rfl (by decide) ?_
    refine g_iconst (pc' := 16) (v := 1) rfl rfl (by decide) ?_
    refine g_iload_n (pc' := 17) rfl rfl rfl ?_
    refine g_ishl (pc' := 18) rfl rfl ?_
    refine g_iconst (pc' := 19) (v := 1) rfl rfl (by decide) ?_
    refine g_isub (pc' := 20) rfl rfl ?_
    refine g_i2l (pc' := 21) rfl rfl ?_
    refine g_calli (pc' := 24) rfl rfl rfl rfl (Or.inl rfl) ?_
    refine d_in (lo := 0) (hi := 1 <<< (n &&& 31) - 1) (by decide) (rfl) (fun q1 q2 => ?_) (fun q0 => ?_)
    · refine g_if_eq (pc' := 27) (t := 60) rfl rfl rfl (fun c => absurd c (by decide)) (fun _ => ?_)
      refine g_iload_n (pc' := 28) rfl rfl rfl ?_
      refine g_i2l (pc' := 29) rfl rfl ?_
      refine g_lconst (pc' := 30) (v := 0) rfl rfl (by decide) ?_
      refine g_iload_n (pc' := 31) rfl rfl rfl ?_
      refine g_i2l (pc' := 32) rfl rfl ?_
      refine g_calli (pc' := 35) rfl rfl rfl rfl (Or.inl rfl) ?_
      refine d_in (lo := 0) (hi := n) (by decide) (rfl) (fun r1 r2 => ?_) (fun r0 => ?_)
      · refine g_if_eq (pc' := 38) (t := 60) rfl rfl rfl (fun c => absurd c (by decide)) (fun _ => ?_)
        refine g_iload (pc' := 40) rfl rfl rfl ?_
        refine g_i2l (pc' := 41) rfl rfl ?_
        refine g_lconst (pc' := 42) (v := 0) rfl rfl (by decide) ?_
        refine g_lconst (pc' := 43) (v := 1) rfl rfl (by decide) ?_
        refine g_calli (pc' := 46) rfl rfl rfl rfl (Or.inl rfl) ?_
        refine d_in (lo := 0) (hi := 1) (by decide) (by decide) (fun s1 s2 => ?_) (fun s0 => ?_)
        · refine g_if_eq (pc' := 49) (t := 60) rfl rfl rfl (fun c => absurd c (by decide)) (fun _ => ?_)
          refine g_iload (pc' := 51) rfl rfl rfl ?_
          refine g_i2l (pc' := 52) rfl rfl ?_
          refine g_lconst (pc' := 53) (v := 0) rfl rfl (by decide) ?_
          refine g_lconst (pc' := 54) (v := 1) rfl rfl (by decide) ?_
          refine g_calli (pc' := 57) rfl rfl rfl rfl (Or.inl rfl) ?_
          refine d_in (lo := 0) (hi := 1) (by decide) (by decide) (fun t1 t2 => ?_) (fun t0 => ?_)
          · refine g_if_ne (pc' := 60) (t := 64) rfl rfl rfl (fun _ => ?_) (fun c => absurd c (by decide))
            obtain ⟨a, b, c, ha1, ha, hb, hc, en, ex, ek, er⟩ := lot_in (A := A) ⟨p1, p2⟩ ⟨q1, q2⟩ ⟨r1, r2⟩ ⟨s1, s2⟩ ⟨t1, t2⟩
            subst en
            subst ex
            subst ek
            obtain ⟨j, hj, ej⟩ := i_in (n := 1) (by decide) s1 s2
            refine g_aload_n (pc' := 65) rfl rfl rfl ?_
            refine g_lconst (pc' := 66) (v := 0) rfl rfl (by decide) ?_
            refine g_putl (pc' := 69) rfl rfl (i_11_30) ?_
            refine g_aload_n (pc' := 70) rfl rfl rfl ?_
            refine g_lconst (pc' := 71) (v := 1) rfl rfl (by decide) ?_
            refine g_putl (pc' := 74) rfl rfl (i_11_31) ?_
            refine g_iconst (pc' := 75) (v := 0) rfl rfl (by decide) ?_
            refine g_istore (pc' := 77) rfl rfl rfl ?_
            rcases (show j = 0 ∨ j = 1 by omega) with z | z <;> subst z
            · subst ej
              refine d_lotL0 (m := m) ha hb hc (lot_c a ha b hb c (by omega)) (fun m3 f3 r3 => ?_) (a + 1) 0 (m.1, am_wl (am_wl m.2 53 30 0) 53 31 1) (0, 1) (by omega) FL.rf.w.w (by unfold FRM; dsimp only; rw [am_wl_s, am_wl_s]; exact ⟨rfl, rfl⟩) rfl
              refine g_iload (pc' := 121) rfl rfl rfl ?_
              refine g_if_ne (pc' := 124) (t := 131) rfl rfl rfl (fun c_121 => ?_) (fun c_121 => ?_)
              · refine g_aload_n (pc' := 132) rfl rfl rfl ?_
                refine g_getl (pc' := 135) rfl rfl (i_11_31) ?_
                refine g_vl (y := (acC a b (0, 1) c).2) (r3.2) ?_
                exact g_lreturn rfl rfl (by have := mfl h er f3.fr (f3.mi hM); rw [if_neg c_121] at this; exact this)
              · refine g_aload_n (pc' := 125) rfl rfl rfl ?_
                refine g_getl (pc' := 128) rfl rfl (i_11_30) ?_
                refine g_vl (y := (acC a b (0, 1) c).1) (r3.1) ?_
                refine g_goto (pc' := 135) rfl rfl ?_
                exact g_lreturn rfl rfl (by have := mfl h er f3.fr (f3.mi hM); rw [if_pos c_121] at this; exact this)
            · subst ej
              refine d_lotL1 (m := m) ha hb hc (lot_m a ha b hb) (fun m3 f3 r3 => ?_) (a + 1) 0 (m.1, am_wl (am_wl m.2 53 30 0) 53 31 1) (0, 1) (by omega) FL.rf.w.w (by unfold FRM; dsimp only; rw [am_wl_s, am_wl_s]; exact ⟨rfl, rfl⟩) rfl
              refine g_iload (pc' := 121) rfl rfl rfl ?_
              refine g_if_ne (pc' := 124) (t := 131) rfl rfl rfl (fun c_121 => ?_) (fun c_121 => ?_)
              · refine g_aload_n (pc' := 132) rfl rfl rfl ?_
                refine g_getl (pc' := 135) rfl rfl (i_11_31) ?_
                refine g_vl (y := (meC a b a).2) (r3.2) ?_
                exact g_lreturn rfl rfl (by have := mfl h er f3.fr (f3.mi hM); rw [if_neg c_121] at this; exact this)
              · refine g_aload_n (pc' := 125) rfl rfl rfl ?_
                refine g_getl (pc' := 128) rfl rfl (i_11_30) ?_
                refine g_vl (y := (meC a b a).1) (r3.1) ?_
                refine g_goto (pc' := 135) rfl rfl ?_
                exact g_lreturn rfl rfl (by have := mfl h er f3.fr (f3.mi hM); rw [if_pos c_121] at this; exact this)
          · refine g_if_ne (pc' := 60) (t := 64) rfl rfl rfl (fun c => absurd c (by decide)) (fun _ => ?_)
            refine g_ldc2_w (pc' := 63) (v := -1000000000000000002) rfl rfl (by decide) ?_
            exact g_lreturn rfl rfl (mfl h (by unfold r_lot; rw [if_pos (Or.inr (Or.inr (Or.inr (Or.inr t0))))]) Fr.rf hM)
        · refine g_if_eq (pc' := 49) (t := 60) rfl rfl rfl (fun _ => ?_) (fun c => absurd c (by decide))
          refine g_ldc2_w (pc' := 63) (v := -1000000000000000002) rfl rfl (by decide) ?_
          exact g_lreturn rfl rfl (mfl h (by unfold r_lot; rw [if_pos (Or.inr (Or.inr (Or.inr (Or.inl s0))))]) Fr.rf hM)
      · refine g_if_eq (pc' := 38) (t := 60) rfl rfl rfl (fun _ => ?_) (fun c => absurd c (by decide))
        refine g_ldc2_w (pc' := 63) (v := -1000000000000000002) rfl rfl (by decide) ?_
        exact g_lreturn rfl rfl (mfl h (by unfold r_lot; rw [if_pos (Or.inr (Or.inr (Or.inl r0)))]) Fr.rf hM)
    · refine g_if_eq (pc' := 27) (t := 60) rfl rfl rfl (fun _ => ?_) (fun c => absurd c (by decide))
      refine g_ldc2_w (pc' := 63) (v := -1000000000000000002) rfl rfl (by decide) ?_
      exact g_lreturn rfl rfl (mfl h (by unfold r_lot; rw [if_pos (Or.inr (Or.inl q0))]) Fr.rf hM)
  · refine g_if_eq (pc' := 12) (t := 60) rfl rfl rfl (fun _ => ?_) (fun c => absurd c (by decide))
    refine g_ldc2_w (pc' := 63) (v := -1000000000000000002) rfl rfl (by decide) ?_
    exact g_lreturn rfl rfl (mfl h (by unfold r_lot; rw [if_pos (Or.inl p0)]) Fr.rf hM)
end L5
