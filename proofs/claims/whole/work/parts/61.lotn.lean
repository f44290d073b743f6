/-! LOTS: the model's methods -/
def FRM (m : aMem) (p : aFr) : Prop := m.2 53 30 = p.1 ∧ m.2 53 31 = p.2
def FL (m m' : aMem) : Prop := m'.1 = m.1 ∧ ∀ q, q ≠ 53 → m'.2 q = m.2 q
section L3
variable {X : aX} {m : aMem} {A : aA}
theorem FL.rf : FL m m := ⟨rfl, fun _ _ => rfl⟩
theorem FL.tr {m1 m2 : aMem} (h : FL m m1) (h' : FL m1 m2) : FL m m2 := ⟨h'.1.trans h.1, fun q hq => (h'.2 q hq).trans (h.2 q hq)⟩
theorem FL.w {m1 : aMem} {k : Nat} {v : Int64} (h : FL m m1) : FL m (m1.1, am_wl m1.2 53 k v) := ⟨h.1, fun q hq => by show am_wl m1.2 53 k v q = _; rw [am_wl_n hq]; exact h.2 q hq⟩
theorem FL.mi {m' : aMem} (h : FL m m') (hM : MI m A) : MI m' A := by
  unfold MI stAt sgM imM stK sgK at *
  rw [h.1]; exact hM
theorem FL.fr {m' : aMem} (h : FL m m') : Fr 53 73 m m' := ⟨fun q _ => congrFun h.1 q, fun q hq => h.2 q (by omega)⟩
theorem d_divisor {K : Int64 → aMem → Prop} {a b g : Int64} (hg : gcM 60 b a = some g) (h : K g m) : gCl X 166 [.long a, .long b] m K := by
  refine g_inL rfl ?_
  have loop : ∀ (n : Nat) (p q : Int64) (v8 v9 : Value), gcM n p q = some g → gG X 166 6 [.long a, .null, .long b, .null, .long p, .null, .long q, .null, v8, v9] [] m (fun r m' => ∃ v, r = some (.long v) ∧ K v m') := by
    intro n
    induction n with
    | zero => intro p q v8 v9 hr; cases hr
    | succ n ih =>
      intro p q v8 v9 hr
      refine g_lload (pc' := 8) rfl rfl rfl ?_
      refine g_lconst (pc' := 9) (v := 0) rfl rfl (by decide) ?_
      refine g_lcmp (pc' := 10) rfl rfl ?_
      refine g_if_eq (pc' := 13) (t := 31) rfl rfl rfl (fun c_10 => ?_) (fun c_10 => ?_)
      · refine g_lload (pc' := 33) rfl rfl rfl ?_
        exact g_lreturn rfl rfl (by rw [gcM, if_pos (lg_0.mp c_10)] at hr; rw [Option.some.inj hr]; exact h)
      · refine g_lload (pc' := 15) rfl rfl rfl ?_
        refine g_lload (pc' := 17) rfl rfl rfl ?_
        refine g_lrem (pc' := 18) rfl rfl (fun z => c_10 (lg_0.mpr z)) ?_
        refine g_lstore (pc' := 20) rfl rfl rfl ?_
        refine g_lload (pc' := 22) rfl rfl rfl ?_
        refine g_lstore (pc' := 24) rfl rfl rfl ?_
        refine g_lload (pc' := 26) rfl rfl rfl ?_
        refine g_lstore (pc' := 28) rfl rfl rfl ?_
        refine g_goto (pc' := 6) rfl rfl ?_
        exact ih _ _ _ _ (by rw [gcM, if_neg (fun z => c_10 (lg_0.mpr z))] at hr; exact hr)
  refine g_lload_n (pc' := 1) rfl rfl rfl ?_
  refine g_lstore (pc' := 3) rfl rfl rfl ?_
  refine g_lload_n (pc' := 4) rfl rfl rfl ?_
  refine g_lstore (pc' := 6) rfl rfl rfl ?_
  exact loop 60 _ _ _ _ hg
theorem d_choose {K : Int64 → aMem → Prop} {n k : Nat} (hn : n < 100) (hk : k < 100) (h : K (chM n k) m) : gCl X 167 [.int (nI n), .int (nI k)] m K := by
  refine g_inL rfl ?_
  refine g_iload_n (pc' := 1) rfl rfl rfl ?_
  refine g_iload_n (pc' := 2) rfl rfl rfl ?_
  refine g_icmp_le (pc' := 5) (t := 9) rfl rfl rfl (fun c_2 => ?_) (fun c_2 => ?_)
  · refine g_lconst (pc' := 10) (v := 1) rfl rfl (by decide) ?_
    refine g_lstore_n (pc' := 11) rfl rfl rfl ?_
    refine g_iconst (pc' := 12) (v := 0) rfl rfl (by decide) ?_
    refine g_istore (pc' := 14) rfl rfl rfl ?_
    have loop : ∀ (d i : Nat), i + d = k → gG X 167 14 [.int (nI n), .int (nI k), .long (fN (chT n) i 1), .null, .int (nI i)] [] m (fun r m' => ∃ v, r = some (.long v) ∧ K v m') := by
      intro d
      induction d with
      | zero =>
        intro i hd
        have hi : i = k := by omega
        subst hi
        refine g_iload (pc' := 16) rfl rfl rfl ?_
        refine g_iload_n (pc' := 17) rfl rfl rfl ?_
        refine g_icmp_ge (pc' := 20) (t := 46) rfl rfl rfl (fun c_17 => ?_) (fun c_17 => absurd (nI_le (Nat.le_refl i) (by omega)) c_17)
        refine g_lload_n (pc' := 47) rfl rfl rfl ?_
        exact g_lreturn rfl rfl (by rw [chM, if_pos ((nI_leI (by omega) (by omega)).mp c_2)] at h; exact h)
      | succ d ih =>
        intro i hd
        have hlt : i < k := by omega
        refine g_iload (pc' := 16) rfl rfl rfl ?_
        refine g_iload_n (pc' := 17) rfl rfl rfl ?_
        refine g_icmp_ge (pc' := 20) (t := 46) rfl rfl rfl (fun c_17 => absurd c_17 (nI_ge hlt (by omega))) (fun c_17 => ?_)
        refine g_lload_n (pc' := 21) rfl rfl rfl ?_
        refine g_lconst (pc' := 22) (v := 0) rfl rfl (by decide) ?_
        refine g_lcmp (pc' := 23) rfl rfl ?_
        refine g_if_le (pc' := 26) (t := 46) rfl rfl rfl (fun c_23 => ?_) (fun c_23 => ?_)
        · refine g_lload_n (pc' := 47) rfl rfl rfl ?_
          exact g_lreturn rfl rfl (by rw [chM, if_pos ((nI_leI (by omega) (by omega)).mp c_2), show k = i + (d + 1) by omega, ch_stay (fun z => absurd c_23 (i_lt_nle (lg_gt.mpr z)))] at h; exact h)
        · have hr : 0 < fN (chT n) i 1 := lg_gt.mp (i_nle_lt c_23)
          refine g_lload_n (pc' := 27) rfl rfl rfl ?_
          refine g_iload_n (pc' := 28) rfl rfl rfl ?_
          refine g_iload (pc' := 30) rfl rfl rfl ?_
          refine g_isub (pc' := 31) rfl rfl ?_
          refine g_i2l (pc' := 32) rfl rfl ?_
          refine g_lmul (pc' := 33) rfl rfl ?_
          refine g_iload (pc' := 35) rfl rfl rfl ?_
          refine g_iconst (pc' := 36) (v := 1) rfl rfl (by decide) ?_
          refine g_iadd (pc' := 37) rfl rfl ?_
          refine g_vi (y := nI (i + 1)) (nI_1 i) ?_
          refine g_i2l (pc' := 38) rfl rfl ?_
          refine g_ldiv (pc' := 39) rfl rfl (l_n0 (by omega) (by omega)) ?_
          refine g_lstore_n (pc' := 40) rfl rfl rfl ?_
          refine g_iinc (pc' := 43) (v := nI (i + 1)) rfl rfl rfl (nI_1 i) rfl ?_
          refine g_goto (pc' := 14) rfl rfl ?_
          have hh := ih (i + 1) (by omega)
          rw [fN, chT, if_pos hr] at hh
          exact hh
    exact loop k 0 (by omega)
  · refine g_lconst (pc' := 6) (v := 0) rfl rfl (by decide) ?_
    refine g_goto (pc' := 10) rfl rfl ?_
    refine g_lstore_n (pc' := 11) rfl rfl rfl ?_
    refine g_iconst (pc' := 12) (v := 0) rfl rfl (by decide) ?_
    refine g_istore (pc' := 14) rfl rfl rfl ?_
    have loop : ∀ (d i : Nat), i + d = k → gG X 167 14 [.int (nI n), .int (nI k), .long (fN (chT n) i 0), .null, .int (nI i)] [] m (fun r m' => ∃ v, r = some (.long v) ∧ K v m') := by
      intro d
      induction d with
      | zero =>
        intro i hd
        have hi : i = k := by omega
        subst hi
        refine g_iload (pc' := 16) rfl rfl rfl ?_
        refine g_iload_n (pc' := 17) rfl rfl rfl ?_
        refine g_icmp_ge (pc' := 20) (t := 46) rfl rfl rfl (fun c_17 => ?_) (fun c_17 => absurd (nI_le (Nat.le_refl i) (by omega)) c_17)
        refine g_lload_n (pc' := 47) rfl rfl rfl ?_
        exact g_lreturn rfl rfl (by rw [chM, if_neg (fun z => c_2 (nI_le z (by omega)))] at h; exact h)
      | succ d ih =>
        intro i hd
        have hlt : i < k := by omega
        refine g_iload (pc' := 16) rfl rfl rfl ?_
        refine g_iload_n (pc' := 17) rfl rfl rfl ?_
        refine g_icmp_ge (pc' := 20) (t := 46) rfl rfl rfl (fun c_17 => absurd c_17 (nI_ge hlt (by omega))) (fun c_17 => ?_)
        refine g_lload_n (pc' := 21) rfl rfl rfl ?_
        refine g_lconst (pc' := 22) (v := 0) rfl rfl (by decide) ?_
        refine g_lcmp (pc' := 23) rfl rfl ?_
        refine g_if_le (pc' := 26) (t := 46) rfl rfl rfl (fun c_23 => ?_) (fun c_23 => ?_)
        · refine g_lload_n (pc' := 47) rfl rfl rfl ?_
          exact g_lreturn rfl rfl (by rw [chM, if_neg (fun z => c_2 (nI_le z (by omega))), show k = i + (d + 1) by omega, ch_stay (fun z => absurd c_23 (i_lt_nle (lg_gt.mpr z)))] at h; exact h)
        · have hr : 0 < fN (chT n) i 0 := lg_gt.mp (i_nle_lt c_23)
          refine g_lload_n (pc' := 27) rfl rfl rfl ?_
          refine g_iload_n (pc' := 28) rfl rfl rfl ?_
          refine g_iload (pc' := 30) rfl rfl rfl ?_
          refine g_isub (pc' := 31) rfl rfl ?_
          refine g_i2l (pc' := 32) rfl rfl ?_
          refine g_lmul (pc' := 33) rfl rfl ?_
          refine g_iload (pc' := 35) rfl rfl rfl ?_
          refine g_iconst (pc' := 36) (v := 1) rfl rfl (by decide) ?_
          refine g_iadd (pc' := 37) rfl rfl ?_
          refine g_vi (y := nI (i + 1)) (nI_1 i) ?_
          refine g_i2l (pc' := 38) rfl rfl ?_
          refine g_ldiv (pc' := 39) rfl rfl (l_n0 (by omega) (by omega)) ?_
          refine g_lstore_n (pc' := 40) rfl rfl rfl ?_
          refine g_iinc (pc' := 43) (v := nI (i + 1)) rfl rfl rfl (nI_1 i) rfl ?_
          refine g_goto (pc' := 14) rfl rfl ?_
          have hh := ih (i + 1) (by omega)
          rw [fN, chT, if_pos hr] at hh
          exact hh
    exact loop k 0 (by omega)
end L3
