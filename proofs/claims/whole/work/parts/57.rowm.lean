/-! THE ROW: the model -/
section W2
variable {X : aX} {m : aMem} {A : aA} {K : Int32 → aMem → Prop}
theorem km_70 {m' : aMem} (h : Fr 66 71 m m') : KM m m' := ⟨fun q hq => h.1 q (by omega), fun q hq => h.2 q (by omega), fun i _ _ => congrFun (h.1 53 (by omega)) i⟩
theorem d_worthOf {v : Int32} {j kn : Nat} (h0 : v ≤ 0 ↔ j = 0) (h1 : ¬ j = 0 → v = nI j) (hj : ¬ j = 0 → j < kn) (h100 : kn ≤ 100) (hT : ∀ j, j < kn → m.1 70 j = nI (Wt j)) (h : K (nI (Wt j)) m) : gCi X 162 [.ref 53, .int v] m K := by
  refine g_inI rfl ?_
  refine g_iload_n (pc' := 1) rfl rfl rfl ?_
  refine g_if_le (pc' := 4) (t := 13) rfl rfl rfl (fun c_1 => ?_) (fun c_1 => ?_)
  · refine g_iconst (pc' := 14) (v := 0) rfl rfl (by decide) ?_
    exact g_ireturn rfl rfl (g_eq h (by rw [h0.mp c_1]; rfl) rfl)
  · have hj0 : ¬ j = 0 := fun z => c_1 (h0.mpr z)
    have hjk := hj hj0
    have ej := h1 hj0
    subst ej
    refine g_aload_n (pc' := 5) rfl rfl rfl ?_
    refine g_getr (pc' := 8) rfl rfl (f_11_29) ?_
    refine g_iload_n (pc' := 9) rfl rfl rfl ?_
    refine g_iald (pc' := 10) rfl rfl (a_70) (k := j) (by omega) rfl ?_
    refine g_vi (y := nI (Wt j)) (hT j hjk) ?_
    refine g_goto (pc' := 14) rfl rfl ?_
    exact g_ireturn rfl rfl (h)
theorem d_leftBeside {n k kn : Nat} (hn : n ≤ kn) (hn2 : n < 101) (h100 : kn ≤ 100) (hk : k < n) (hT : ∀ j, j < kn → m.1 70 j = nI (Wt j)) (h : K (nI (gB n k)) m) : gCi X 163 [.ref 53, .int (nI n), .int (nI k)] m K := by
  refine g_inI rfl ?_
  refine g_aload_n (pc' := 1) rfl rfl rfl ?_
  refine g_iload_n (pc' := 2) rfl rfl rfl ?_
  refine g_iconst (pc' := 3) (v := 1) rfl rfl (by decide) ?_
  refine g_isub (pc' := 4) rfl rfl ?_
  refine g_calli (pc' := 7) rfl rfl rfl rfl (Or.inr rfl) ?_
  refine d_worthOf (j := k - 1) (kn := kn) (wo_1 k (by omega)).1 (wo_1 k (by omega)).2 (fun _ => by omega) h100 hT ?_
  refine g_aload_n (pc' := 8) rfl rfl rfl ?_
  refine g_iload_n (pc' := 9) rfl rfl rfl ?_
  refine g_iload_n (pc' := 10) rfl rfl rfl ?_
  refine g_isub (pc' := 11) rfl rfl ?_
  refine g_iconst (pc' := 12) (v := 2) rfl rfl (by decide) ?_
  refine g_isub (pc' := 13) rfl rfl ?_
  refine g_calli (pc' := 16) rfl rfl rfl rfl (Or.inr rfl) ?_
  refine d_worthOf (j := n - k - 2) (kn := kn) (wo_2 n (by omega) k hk).1 (wo_2 n (by omega) k hk).2 (fun _ => by omega) h100 hT ?_
  refine g_ixor (pc' := 17) rfl rfl ?_
  refine g_vi (y := nI (gB n k)) (nI_xor _ _) ?_
  exact g_ireturn rfl rfl (h)
theorem d_worthBy {n : Nat} (hn2 : n < 100) (hT : ∀ j, j < n → m.1 70 j = nI (Wt j)) (h : K (nI (Wt n)) m) : gCi X 164 [.ref 53, .int (nI n)] m K := by
  refine g_inI rfl ?_
  obtain ⟨mx1, mx2, mx3⟩ := mex_k n hn2
  have loop2 : ∀ (d i : Nat), i + d = Wt n → gG X 164 32 [.ref 53, .int (nI n), .long (nL (Mk n n)), .null, .int (nI i)] [] m (fun r m' => ∃ v, r = some (.int v) ∧ K v m') := by
    intro d
    induction d with
    | zero =>
      intro i hd
      have hi : i = Wt n := by omega
      refine g_lload_n (pc' := 33) rfl rfl rfl ?_
      refine g_iload (pc' := 35) rfl rfl rfl ?_
      refine g_lshr (pc' := 36) rfl rfl ?_
      refine g_lconst (pc' := 37) (v := 1) rfl rfl (by decide) ?_
      refine g_land (pc' := 38) rfl rfl ?_
      refine g_lconst (pc' := 39) (v := 1) rfl rfl (by decide) ?_
      refine g_lcmp (pc' := 40) rfl rfl ?_
      refine g_if_ne (pc' := 43) (t := 49) rfl rfl rfl (fun c_40 => ?_) (fun c_40 => absurd ((bk_k2 n hn2 i (by omega)).mp (lg_0.mp c_40)) (by rw [hi, mx2]; decide))
      refine g_iload (pc' := 51) rfl rfl rfl ?_
      exact g_ireturn rfl rfl (g_eq h (by rw [hi]) rfl)
    | succ d ih =>
      intro i hd
      refine g_lload_n (pc' := 33) rfl rfl rfl ?_
      refine g_iload (pc' := 35) rfl rfl rfl ?_
      refine g_lshr (pc' := 36) rfl rfl ?_
      refine g_lconst (pc' := 37) (v := 1) rfl rfl (by decide) ?_
      refine g_land (pc' := 38) rfl rfl ?_
      refine g_lconst (pc' := 39) (v := 1) rfl rfl (by decide) ?_
      refine g_lcmp (pc' := 40) rfl rfl ?_
      refine g_if_ne (pc' := 43) (t := 49) rfl rfl rfl (fun c_40 => absurd (lg_0.mpr ((bk_k2 n hn2 i (by omega)).mpr (mx3 i (by omega)))) c_40) (fun c_40 => ?_)
      refine g_iinc (pc' := 46) (v := nI (i + 1)) rfl rfl rfl (nI_1 i) rfl ?_
      refine g_goto (pc' := 32) rfl rfl ?_
      exact ih (i + 1) (by omega)
  have loop : ∀ (d i : Nat), i + d = n → gG X 164 5 [.ref 53, .int (nI n), .long (nL (Mk n i)), .null, .int (nI i)] [] m (fun r m' => ∃ v, r = some (.int v) ∧ K v m') := by
    intro d
    induction d with
    | zero =>
      intro i hd
      have hi : i = n := by omega
      subst hi
      refine g_iload (pc' := 7) rfl rfl rfl ?_
      refine g_iload_n (pc' := 8) rfl rfl rfl ?_
      refine g_icmp_ge (pc' := 11) (t := 29) rfl rfl rfl (fun c_8 => ?_) (fun c_8 => absurd (nI_le (Nat.le_refl i) (by omega)) c_8)
      refine g_iconst (pc' := 30) (v := 0) rfl rfl (by decide) ?_
      refine g_istore (pc' := 32) rfl rfl rfl ?_
      exact loop2 (Wt i) 0 (by omega)
    | succ d ih =>
      intro i hd
      have hlt : i < n := by omega
      refine g_iload (pc' := 7) rfl rfl rfl ?_
      refine g_iload_n (pc' := 8) rfl rfl rfl ?_
      refine g_icmp_ge (pc' := 11) (t := 29) rfl rfl rfl (fun c_8 => absurd c_8 (nI_ge hlt (by omega))) (fun c_8 => ?_)
      refine g_lload_n (pc' := 12) rfl rfl rfl ?_
      refine g_lconst (pc' := 13) (v := 1) rfl rfl (by decide) ?_
      refine g_aload_n (pc' := 14) rfl rfl rfl ?_
      refine g_iload_n (pc' := 15) rfl rfl rfl ?_
      refine g_iload (pc' := 17) rfl rfl rfl ?_
      refine g_calli (pc' := 20) rfl rfl rfl rfl (Or.inr rfl) ?_
      refine d_leftBeside (kn := n) (Nat.le_refl _) (by omega) (by omega) hlt hT ?_
      refine g_lshl (pc' := 21) rfl rfl ?_
      refine g_vl (y := nL (2 ^ gB n i)) (shl_k _ (gB_lt n (by omega) i hlt)) ?_
      refine g_lor (pc' := 22) rfl rfl ?_
      refine g_vl (y := nL (Mk n (i + 1))) (nL_or _ _) ?_
      refine g_lstore_n (pc' := 23) rfl rfl rfl ?_
      refine g_iinc (pc' := 26) (v := nI (i + 1)) rfl rfl rfl (nI_1 i) rfl ?_
      refine g_goto (pc' := 5) rfl rfl ?_
      exact ih (i + 1) (by omega)
  refine g_lconst (pc' := 1) (v := 0) rfl rfl (by decide) ?_
  refine g_lstore_n (pc' := 2) rfl rfl rfl ?_
  refine g_iconst (pc' := 3) (v := 0) rfl rfl (by decide) ?_
  refine g_istore (pc' := 5) rfl rfl rfl ?_
  exact loop n 0 (by omega)
theorem d_row {x w : Int32} (hM : MI m A) (h : ∀ m', Fr 53 73 m m' → MI m' (r_row A x w).2 → K (r_row A x w).1 m') : gCi X 165 [.ref 53, .int x, .int w] m K := by
  refine g_inI rfl ?_
  refine g_iload_n (pc' := 1) rfl rfl rfl ?_
  refine g_i2l (pc' := 2) rfl rfl ?_
  refine g_lconst (pc' := 3) (v := 0) rfl rfl (by decide) ?_
  refine g_ldc2_w (pc' := 6) (v := 99) rfl rfl (by decide) ?_
  refine g_calli (pc' := 9) rfl rfl rfl rfl (Or.inl rfl) ?_
  refine d_in (lo := 0) (hi := 99) (by decide) (by decide) (fun u1 u2 => ?_) (fun u0 => ?_)
  · refine g_if_eq (pc' := 12) (t := 22) rfl rfl rfl (fun c => absurd c (by decide)) (fun _ => ?_)
    refine g_iload_n (pc' := 13) rfl rfl rfl ?_
    refine g_i2l (pc' := 14) rfl rfl ?_
    refine g_lconst (pc' := 15) (v := 0) rfl rfl (by decide) ?_
    refine g_lconst (pc' := 16) (v := 1) rfl rfl (by decide) ?_
    refine g_calli (pc' := 19) rfl rfl rfl rfl (Or.inl rfl) ?_
    refine d_in (lo := 0) (hi := 1) (by decide) (by decide) (fun w1 w2 => ?_) (fun w0 => ?_)
    · refine g_if_ne (pc' := 22) (t := 25) rfl rfl rfl (fun _ => ?_) (fun c => absurd c (by decide))
      obtain ⟨k, hk, ek⟩ := i_in (n := 99) (by decide) u1 u2
      have er : r_row A x w = (if w = 1 then mvF k k 0 else if mvF k k 0 = -6 then 0 else 1, A) := by unfold r_row; rw [if_neg (fun z => z.elim (nn ⟨u1, u2⟩) (nn ⟨w1, w2⟩)), ek, ix_nI (by omega)]
      subst ek
      refine g_iconst (pc' := 26) (v := 0) rfl rfl (by decide) ?_
      refine g_istore_n (pc' := 27) rfl rfl rfl ?_
      have loop : ∀ (d i : Nat) (m1 : aMem) (v4 : Value), i + d = k + 1 → Fr 66 71 m m1 → (∀ j, j < i → m1.1 70 j = nI (Wt j)) → gG X 165 27 [.ref 53, .int (nI k), .int w, .int (nI i), v4] [] m1 (fun r m' => ∃ v, r = some (.int v) ∧ K v m') := by
        intro d
        induction d with
        | zero =>
          intro i m1 v4 hd hF hT70
          have hi : i = k + 1 := by omega
          subst hi
          refine g_iload_n (pc' := 28) rfl rfl rfl ?_
          refine g_iload_n (pc' := 29) rfl rfl rfl ?_
          refine g_icmp_gt (pc' := 32) (t := 49) rfl rfl rfl (fun c_29 => ?_) (fun c_29 => absurd (i_nlt_le c_29) (nI_ge (by omega) (by omega)))
          refine g_iload_n (pc' := 50) rfl rfl rfl ?_
          refine g_if_ne (pc' := 53) (t := 68) rfl rfl rfl (fun c_50 => ?_) (fun c_50 => ?_)
          · refine g_bipush (pc' := 70) (v := -6) rfl rfl (by decide) ?_
            refine g_istore_n (pc' := 71) rfl rfl rfl ?_
            refine g_iload_n (pc' := 72) rfl rfl rfl ?_
            refine g_iconst (pc' := 73) (v := 1) rfl rfl (by decide) ?_
            refine g_isub (pc' := 74) rfl rfl ?_
            refine g_istore (pc' := 76) rfl rfl rfl ?_
            have hw1 : w = 1 := by
              obtain ⟨j, hj, ej⟩ := i_in (n := 1) (by decide) w1 w2
              rcases (show j = 0 ∨ j = 1 by omega) with q | q <;> subst q
              · exact absurd ej c_50
              · exact ej
            have dn : ∀ (d : Nat), d ≤ k → gG X 165 76 [.ref 53, .int (nI k), .int w, .int (mvF k (k - d) d), .int (nI d - 1)] [] m1 (fun r m' => ∃ v, r = some (.int v) ∧ K v m') := by
              intro d
              induction d with
              | zero =>
                intro hd
                refine g_iload (pc' := 78) rfl rfl rfl ?_
                refine g_if_lt (pc' := 81) (t := 104) rfl rfl rfl (fun c_78 => ?_) (fun c_78 => absurd (by decide) c_78)
                refine g_iload_n (pc' := 105) rfl rfl rfl ?_
                exact g_ireturn rfl rfl (g_eq (mf h er (km_70 hF).fr ((km_70 hF).mi hM ((hF.st (p := 53) (by omega)).trans hM.1))) (by rw [if_pos hw1, Nat.sub_zero]) rfl)
              | succ d ih =>
                intro hd
                have e1 : nI (d + 1) - 1 = nI d := pk_sub (a := d + 1) (b := 1) (by omega)
                rw [e1]
                have hg := gB_lt k (by omega) d (by omega)
                have e2 : mvF k (k - d) d = if gB k d = 0 then nI d else mvF k (k - (d + 1)) (d + 1) := by rw [show k - d = (k - (d + 1)) + 1 by omega, mvF]
                refine g_iload (pc' := 78) rfl rfl rfl ?_
                refine g_if_lt (pc' := 81) (t := 104) rfl rfl rfl (fun c_78 => absurd c_78 (nI_pos (by omega))) (fun c_78 => ?_)
                refine g_aload_n (pc' := 82) rfl rfl rfl ?_
                refine g_iload_n (pc' := 83) rfl rfl rfl ?_
                refine g_iload (pc' := 85) rfl rfl rfl ?_
                refine g_calli (pc' := 88) rfl rfl rfl rfl (Or.inr rfl) ?_
                refine d_leftBeside (kn := k + 1) (by omega) (by omega) (by omega) (by omega) hT70 ?_
                refine g_if_ne (pc' := 91) (t := 96) rfl rfl rfl (fun c_88 => ?_) (fun c_88 => ?_)
                · refine g_iload_n (pc' := 97) rfl rfl rfl ?_
                  refine g_istore_n (pc' := 98) rfl rfl rfl ?_
                  refine g_iinc (pc' := 101) (v := nI d - 1) rfl rfl rfl (by rw [Int32.sub_eq_add_neg]; exact congrArg (fun q => nI d + q) (by decide)) rfl ?_
                  refine g_goto (pc' := 76) rfl rfl ?_
                  have h3 := ih (by omega)
                  rw [e2, if_neg (fun z => c_88 (by rw [z]; rfl))] at h3
                  exact h3
                · refine g_iload (pc' := 93) rfl rfl rfl ?_
                  refine g_goto (pc' := 97) rfl rfl ?_
                  refine g_istore_n (pc' := 98) rfl rfl rfl ?_
                  refine g_iinc (pc' := 101) (v := nI d - 1) rfl rfl rfl (by rw [Int32.sub_eq_add_neg]; exact congrArg (fun q => nI d + q) (by decide)) rfl ?_
                  refine g_goto (pc' := 76) rfl rfl ?_
                  have h3 := ih (by omega)
                  rw [e2, if_pos ((nI_eq (b := 0) (by omega) (by decide)).mp c_88)] at h3
                  exact h3
            have hh := dn k (Nat.le_refl _)
            rw [Nat.sub_self] at hh
            exact hh
          · refine g_aload_n (pc' := 54) rfl rfl rfl ?_
            refine g_getr (pc' := 57) rfl rfl (f_11_29) ?_
            refine g_iload_n (pc' := 58) rfl rfl rfl ?_
            refine g_iald (pc' := 59) rfl rfl (a_70) (k := k) (by omega) rfl ?_
            refine g_vi (y := nI (Wt k)) (hT70 k (by omega)) ?_
            have hwl := (mex_k k (by omega)).1
            have hr0 := row_0 k (by omega)
            refine g_if_ne (pc' := 62) (t := 66) rfl rfl rfl (fun c_59 => ?_) (fun c_59 => ?_)
            · refine g_iconst (pc' := 67) (v := 1) rfl rfl (by decide) ?_
              exact g_ireturn rfl rfl (g_eq (mf h er (km_70 hF).fr ((km_70 hF).mi hM ((hF.st (p := 53) (by omega)).trans hM.1))) (by rw [if_neg (by rw [c_50]; decide), if_neg (fun z => c_59 (by rw [hr0.mp z]; rfl))]) rfl)
            · refine g_iconst (pc' := 63) (v := 0) rfl rfl (by decide) ?_
              refine g_goto (pc' := 67) rfl rfl ?_
              exact g_ireturn rfl rfl (g_eq (mf h er (km_70 hF).fr ((km_70 hF).mi hM ((hF.st (p := 53) (by omega)).trans hM.1))) (by rw [if_neg (by rw [c_50]; decide), if_pos (hr0.mpr ((nI_eq (b := 0) (by omega) (by decide)).mp c_59))]) rfl)
        | succ d ih =>
          intro i m1 v4 hd hF hT70
          have hik : i ≤ k := by omega
          refine g_iload_n (pc' := 28) rfl rfl rfl ?_
          refine g_iload_n (pc' := 29) rfl rfl rfl ?_
          refine g_icmp_gt (pc' := 32) (t := 49) rfl rfl rfl (fun c_29 => absurd (nI_le hik (by omega)) (i_lt_nle c_29)) (fun c_29 => ?_)
          refine g_aload_n (pc' := 33) rfl rfl rfl ?_
          refine g_getr (pc' := 36) rfl rfl (f_11_29) ?_
          refine g_iload_n (pc' := 37) rfl rfl rfl ?_
          refine g_aload_n (pc' := 38) rfl rfl rfl ?_
          refine g_iload_n (pc' := 39) rfl rfl rfl ?_
          refine g_calli (pc' := 42) rfl rfl rfl rfl (Or.inr rfl) ?_
          refine d_worthBy (by omega) hT70 ?_
          refine g_iast (pc' := 43) rfl rfl (a_70) (k := i) (by omega) rfl ?_
          refine g_iinc (pc' := 46) (v := nI (i + 1)) rfl rfl rfl (nI_1 i) rfl ?_
          refine g_goto (pc' := 27) rfl rfl ?_
          exact ih (i + 1) _ _ (by omega) (hF.s (by omega) (by omega)) (fun j hj => by
            show am_wi m1.1 70 i (nI (Wt i)) 70 j = _
            rw [am_wi_s]
            by_cases e : j = i
            · subst e; rw [upd_at]
            · rw [upd_ne e]; exact hT70 j (by omega))
      exact loop (k + 1) 0 m _ (by omega) Fr.rf (fun j hj => absurd hj (by omega))
    · refine g_if_ne (pc' := 22) (t := 25) rfl rfl rfl (fun c => absurd c (by decide)) (fun _ => ?_)
      refine g_bipush (pc' := 24) (v := -2) rfl rfl (by decide) ?_
      exact g_ireturn rfl rfl (mf h (by unfold r_row; rw [if_pos (Or.inr w0)]) Fr.rf hM)
  · refine g_if_eq (pc' := 12) (t := 22) rfl rfl rfl (fun _ => ?_) (fun c => absurd c (by decide))
    refine g_bipush (pc' := 24) (v := -2) rfl rfl (by decide) ?_
    exact g_ireturn rfl rfl (mf h (by unfold r_row; rw [if_pos (Or.inl u0)]) Fr.rf hM)
end W2
