/-! THE MODEL: the smallest contracts, and its street -/
section M1
variable {X : aX} {m : aMem} {K : Int32 → aMem → Prop}
theorem lg_lt {x y : Int64} : lg_cmp x y < 0 ↔ x < y := by
  unfold lg_cmp
  by_cases h1 : y < x
  · have : ¬ x < y := fun z => by rw [Int64.lt_iff_toInt_lt] at *; omega
    simp [h1, this]
  · by_cases h2 : x = y
    · subst h2; simp [h1]
    · have : x < y := by
        rw [Int64.lt_iff_toInt_lt] at *
        have : x.toInt ≠ y.toInt := fun z => h2 (Int64.toInt_inj.mp z)
        omega
      simp [h1, h2, this]
theorem lg_gt {x y : Int64} : 0 < lg_cmp x y ↔ y < x := by
  unfold lg_cmp
  by_cases h1 : y < x
  · simp [h1]
  · by_cases h2 : x = y
    · subst h2; simp [h1]
    · simp [h1, h2]
theorem i64_le {x y : Int32} : x.toInt64 ≤ y.toInt64 ↔ x ≤ y := by
  rw [Int64.le_iff_toInt_le, Int32.le_iff_toInt_le, Int32.toInt_toInt64, Int32.toInt_toInt64]
theorem l_nlt {x y : Int64} (h : ¬ x < y) : y ≤ x := by
  rw [Int64.lt_iff_toInt_lt] at h
  rw [Int64.le_iff_toInt_le]
  omega
theorem l_lt {x y : Int64} (h : x < y) : ¬ y ≤ x := by
  rw [Int64.lt_iff_toInt_lt] at h
  rw [Int64.le_iff_toInt_le]
  omega
theorem d_in {x lo hi : Int32} {a b : Int64} (ha : a = lo.toInt64) (hb : b = hi.toInt64) (h1 : lo ≤ x → x ≤ hi → K 1 m) (h0 : ¬ (lo ≤ x ∧ x ≤ hi) → K 0 m) : gCi X 105 [.long x.toInt64, .long a, .long b] m K := by
  refine g_inI rfl ?_
  subst ha
  subst hb
  refine g_lload_n (pc' := 1) rfl rfl rfl ?_
  refine g_lload_n (pc' := 2) rfl rfl rfl ?_
  refine g_lcmp (pc' := 3) rfl rfl ?_
  refine g_if_lt (pc' := 6) (t := 17) rfl rfl rfl (fun c_3 => ?_) (fun c_3 => ?_)
  · refine g_iconst (pc' := 18) (v := 0) rfl rfl (by decide) ?_
    exact g_zreturn rfl rfl (by decide) (h0 (fun q => l_lt (lg_lt.mp c_3) (i64_le.mpr q.1)))
  · refine g_lload_n (pc' := 7) rfl rfl rfl ?_
    refine g_lload (pc' := 9) rfl rfl rfl ?_
    refine g_lcmp (pc' := 10) rfl rfl ?_
    refine g_if_gt (pc' := 13) (t := 17) rfl rfl rfl (fun c_10 => ?_) (fun c_10 => ?_)
    · refine g_iconst (pc' := 18) (v := 0) rfl rfl (by decide) ?_
      exact g_zreturn rfl rfl (by decide) (h0 (fun q => l_lt (lg_gt.mp c_10) (i64_le.mpr q.2)))
    · refine g_iconst (pc' := 14) (v := 1) rfl rfl (by decide) ?_
      refine g_goto (pc' := 18) rfl rfl ?_
      exact g_zreturn rfl rfl (by decide) (h1 (i64_le.mp (l_nlt (fun z => c_3 (lg_lt.mpr z)))) (i64_le.mp (l_nlt (fun z => c_10 (lg_gt.mpr z)))))
theorem d_isNut {x : Int32} (h1 : ∀ k, k < 10 → x = nI k → K 1 m) (h0 : ¬ (0 ≤ x ∧ x ≤ 9) → K 0 m) : gCi X 106 [.int x] m K := by
  refine g_inI rfl ?_
  refine g_iload_n (pc' := 1) rfl rfl rfl ?_
  refine g_i2l (pc' := 2) rfl rfl ?_
  refine g_lconst (pc' := 3) (v := 0) rfl rfl (by decide) ?_
  refine g_ldc2_w (pc' := 6) (v := 9) rfl rfl (by decide) ?_
  refine g_calli (pc' := 9) rfl rfl rfl rfl (Or.inl rfl) ?_
  refine d_in (lo := 0) (hi := 9) (by decide) (by decide) (fun u1 u2 => ?_) (fun u0 => ?_)
  · exact g_zreturn rfl rfl (by decide) (by obtain ⟨k, hk, e⟩ := i_in (n := 9) (by decide) u1 u2; exact h1 k hk e)
  · exact g_zreturn rfl rfl (by decide) (h0 u0)
theorem d_isChild {x : Int32} (h1 : ∀ k, k < 4 → x = nI k → K 1 m) (h0 : ¬ (0 ≤ x ∧ x ≤ 3) → K 0 m) : gCi X 107 [.int x] m K := by
  refine g_inI rfl ?_
  refine g_iload_n (pc' := 1) rfl rfl rfl ?_
  refine g_i2l (pc' := 2) rfl rfl ?_
  refine g_lconst (pc' := 3) (v := 0) rfl rfl (by decide) ?_
  refine g_ldc2_w (pc' := 6) (v := 3) rfl rfl (by decide) ?_
  refine g_calli (pc' := 9) rfl rfl rfl rfl (Or.inl rfl) ?_
  refine d_in (lo := 0) (hi := 3) (by decide) (by decide) (fun u1 u2 => ?_) (fun u0 => ?_)
  · exact g_zreturn rfl rfl (by decide) (by obtain ⟨k, hk, e⟩ := i_in (n := 3) (by decide) u1 u2; exact h1 k hk e)
  · exact g_zreturn rfl rfl (by decide) (h0 u0)
theorem d_less {x y : Int32} (h : K (if y ≤ x then y else x) m) : gCi X 108 [.int x, .int y] m K := by
  refine g_inI rfl ?_
  refine g_iload_n (pc' := 1) rfl rfl rfl ?_
  refine g_iload_n (pc' := 2) rfl rfl rfl ?_
  refine g_icmp_ge (pc' := 5) (t := 9) rfl rfl rfl (fun c_2 => ?_) (fun c_2 => ?_)
  · refine g_iload_n (pc' := 10) rfl rfl rfl ?_
    exact g_ireturn rfl rfl (g_eq h (by rw [if_pos c_2]) rfl)
  · refine g_iload_n (pc' := 6) rfl rfl rfl ?_
    refine g_goto (pc' := 10) rfl rfl ?_
    exact g_ireturn rfl rfl (g_eq h (by rw [if_neg c_2]) rfl)
theorem w_H {k : Nat} {v : Int32} (h : k < 10) : stAt (am_wi m.1 54 k v, m.2) 53 = uH (stAt m 53) k v := st_wH (p := 53) h
theorem w_C {k : Nat} {v : Int32} (h : k < 10) : stAt (am_wi m.1 55 k v, m.2) 53 = uC (stAt m 53) k v := st_wC (p := 53) h
theorem w_S {k : Nat} {v : Int32} (h : k < 10) : stAt (am_wi m.1 56 k v, m.2) 53 = uS (stAt m 53) k v := st_wS (p := 53) h
theorem w_O {k : Nat} {v : Int32} (h : k < 10) : stAt (am_wi m.1 57 k v, m.2) 53 = uO (stAt m 53) k v := st_wO (p := 53) h
theorem w_I {k : Nat} {v : Int32} (h : k < 10) : stAt (am_wi m.1 58 k v, m.2) 53 = uI (stAt m 53) k v := st_wI (p := 53) h
theorem w_x {o i : Nat} {v : Int32} (h : 58 < o ∨ (o = 53 ∧ i ≠ 5)) : stAt (am_wi m.1 o i v, m.2) 53 = stAt m 53 := st_wx (by omega)
theorem r_H {k : Nat} (h : k < 10) : m.1 54 k = sH (stAt m 53) k := st_H (p := 53) h
theorem r_C {k : Nat} (h : k < 10) : m.1 55 k = sC (stAt m 53) k := st_C (p := 53) h
theorem r_S {k : Nat} (h : k < 10) : m.1 56 k = sS (stAt m 53) k := st_S (p := 53) h
theorem r_O {k : Nat} (h : k < 10) : m.1 57 k = sO (stAt m 53) k := st_O (p := 53) h
theorem r_I {k : Nat} (h : k < 10) : m.1 58 k = sI (stAt m 53) k := st_I (p := 53) h
theorem d_isBroken {k : Nat} (hk : k < 10) (h1 : sC (stAt m 53) k = 3 → K 1 m) (h0 : ¬ sC (stAt m 53) k = 3 → K 0 m) : gCi X 112 [.ref 53, .int (nI k)] m K := by
  refine g_inI rfl ?_
  refine g_aload_n (pc' := 1) rfl rfl rfl ?_
  refine g_getr (pc' := 4) rfl rfl (f_11_1) ?_
  refine g_iload_n (pc' := 5) rfl rfl rfl ?_
  refine g_iald (pc' := 6) rfl rfl (a_55) hk rfl ?_
  refine g_vi (y := sC (stAt m 53) k) (r_C hk) ?_
  refine g_iconst (pc' := 7) (v := 3) rfl rfl (by decide) ?_
  refine g_icmp_ne (pc' := 10) (t := 14) rfl rfl rfl (fun c_7 => ?_) (fun c_7 => ?_)
  · refine g_iconst (pc' := 15) (v := 0) rfl rfl (by decide) ?_
    exact g_zreturn rfl rfl (by decide) (h0 c_7)
  · refine g_iconst (pc' := 11) (v := 1) rfl rfl (by decide) ?_
    refine g_goto (pc' := 15) rfl rfl ?_
    exact g_zreturn rfl rfl (by decide) (h1 c_7)
theorem d_forceBy {k : Nat} {c : Int32} (hk : k < 10) (h : K (forceV (stAt m 53) k c) m) : gCi X 113 [.ref 53, .int (nI k), .int c] m K := by
  refine g_inI rfl ?_
  refine g_aload_n (pc' := 1) rfl rfl rfl ?_
  refine g_getr (pc' := 4) rfl rfl (f_11_0) ?_
  refine g_iload_n (pc' := 5) rfl rfl rfl ?_
  refine g_iald (pc' := 6) rfl rfl (a_54) hk rfl ?_
  refine g_vi (y := sH (stAt m 53) k) (r_H hk) ?_
  refine g_bipush (pc' := 8) (v := 7) rfl rfl (by decide) ?_
  refine g_iload_n (pc' := 9) rfl rfl rfl ?_
  refine g_imul (pc' := 10) rfl rfl ?_
  refine g_isub (pc' := 11) rfl rfl ?_
  refine g_topi (fun f hf => ?_)
  refine g_istore_n (pc' := 12) rfl rfl rfl ?_
  refine g_iload_n (pc' := 13) rfl rfl rfl ?_
  refine g_if_ge (pc' := 16) (t := 20) rfl rfl rfl (fun c_13 => ?_) (fun c_13 => ?_)
  · refine g_iload_n (pc' := 21) rfl rfl rfl ?_
    exact g_ireturn rfl rfl (g_eq h (by unfold forceV; rw [← hf, if_pos c_13]) rfl)
  · refine g_iconst (pc' := 17) (v := 0) rfl rfl (by decide) ?_
    refine g_goto (pc' := 21) rfl rfl ?_
    exact g_ireturn rfl rfl (g_eq h (by unfold forceV; rw [← hf, if_neg c_13]) rfl)
theorem d_ofNut {k t : Nat} (hk : k < 10) (ht : t < 5) (h : K (traitV (stAt m 53) k t) m) : gCi X 134 [.ref 53, .int (nI k), .int (nI t)] m K := by
  refine g_inI rfl ?_
  refine g_iload_n (pc' := 1) rfl rfl rfl ?_
  rcases (show t = 0 ∨ t = 1 ∨ t = 2 ∨ t = 3 ∨ t = 4 by omega) with rfl | rfl | rfl | rfl | rfl
  · refine g_tabI (pc' := 32) rfl (by decide) rfl rfl ?_
    refine g_aload_n (pc' := 33) rfl rfl rfl ?_
    refine g_getr (pc' := 36) rfl rfl (f_11_0) ?_
    refine g_iload_n (pc' := 37) rfl rfl rfl ?_
    refine g_iald (pc' := 38) rfl rfl (a_54) hk rfl ?_
    exact g_ireturn rfl rfl (g_eq h (r_H hk) rfl)
  · refine g_tabI (pc' := 39) rfl (by decide) rfl rfl ?_
    refine g_aload_n (pc' := 40) rfl rfl rfl ?_
    refine g_getr (pc' := 43) rfl rfl (f_11_1) ?_
    refine g_iload_n (pc' := 44) rfl rfl rfl ?_
    refine g_iald (pc' := 45) rfl rfl (a_55) hk rfl ?_
    exact g_ireturn rfl rfl (g_eq h (r_C hk) rfl)
  · refine g_tabI (pc' := 46) rfl (by decide) rfl rfl ?_
    refine g_aload_n (pc' := 47) rfl rfl rfl ?_
    refine g_getr (pc' := 50) rfl rfl (f_11_2) ?_
    refine g_iload_n (pc' := 51) rfl rfl rfl ?_
    refine g_iald (pc' := 52) rfl rfl (a_56) hk rfl ?_
    exact g_ireturn rfl rfl (g_eq h (r_S hk) rfl)
  · refine g_tabI (pc' := 53) rfl (by decide) rfl rfl ?_
    refine g_aload_n (pc' := 54) rfl rfl rfl ?_
    refine g_getr (pc' := 57) rfl rfl (f_11_3) ?_
    refine g_iload_n (pc' := 58) rfl rfl rfl ?_
    refine g_iald (pc' := 59) rfl rfl (a_57) hk rfl ?_
    exact g_ireturn rfl rfl (g_eq h (r_O hk) rfl)
  · refine g_tabO (pc' := 60) rfl (by decide) rfl ?_
    refine g_aload_n (pc' := 61) rfl rfl rfl ?_
    refine g_getr (pc' := 64) rfl rfl (f_11_4) ?_
    refine g_iload_n (pc' := 65) rfl rfl rfl ?_
    refine g_iald (pc' := 66) rfl rfl (a_58) hk rfl ?_
    exact g_ireturn rfl rfl (g_eq h (r_I hk) rfl)
theorem i_or0 (a : Int32) : a ||| 0 = a := by simp
theorem i_add0 (a : Int32) : a + 0 = a := by simp
theorem d_broken (h : K (brokenB (stAt m 53)) m) : gCi X 139 [.ref 53] m K := by
  refine g_inI rfl ?_
  have loop : ∀ (d i : Nat) (acc : Int32), i + d = 10 → acc = fN (fun k a => if sC (stAt m 53) k = 3 then a ||| bit k else a) i 0 → gG X 139 4 [.ref 53, .int acc, .int (nI i)] [] m (fun r m' => ∃ v, r = some (.int v) ∧ K v m') := by
    intro d
    induction d with
    | zero =>
      intro i acc hd ha
      have hi : i = 10 := by omega
      subst hi
      refine g_iload_n (pc' := 5) rfl rfl rfl ?_
      refine g_bipush (pc' := 7) (v := 10) rfl rfl (by decide) ?_
      refine g_icmp_ge (pc' := 10) (t := 34) rfl rfl rfl (fun c_7 => ?_) (fun c_7 => absurd (by decide) c_7)
      refine g_iload_n (pc' := 35) rfl rfl rfl ?_
      exact g_ireturn rfl rfl (g_eq h ha rfl)
    | succ d ih =>
      intro i acc hd ha
      have hlt : i < 10 := by omega
      refine g_iload_n (pc' := 5) rfl rfl rfl ?_
      refine g_bipush (pc' := 7) (v := 10) rfl rfl (by decide) ?_
      refine g_icmp_ge (pc' := 10) (t := 34) rfl rfl rfl (fun c_7 => absurd c_7 (nI_ge (b := 10) hlt (by decide))) (fun c_7 => ?_)
      refine g_iload_n (pc' := 11) rfl rfl rfl ?_
      refine g_aload_n (pc' := 12) rfl rfl rfl ?_
      refine g_iload_n (pc' := 13) rfl rfl rfl ?_
      refine g_calli (pc' := 16) rfl rfl rfl rfl (Or.inr rfl) ?_
      refine d_isBroken hlt (fun q => ?_) (fun q => ?_)
      · refine g_if_eq (pc' := 19) (t := 25) rfl rfl rfl (fun c => absurd c (by decide)) (fun _ => ?_)
        refine g_iconst (pc' := 20) (v := 1) rfl rfl (by decide) ?_
        refine g_iload_n (pc' := 21) rfl rfl rfl ?_
        refine g_ishl (pc' := 22) rfl rfl ?_
        refine g_goto (pc' := 26) rfl rfl ?_
        refine g_ior (pc' := 27) rfl rfl ?_
        refine g_istore_n (pc' := 28) rfl rfl rfl ?_
        refine g_iinc (pc' := 31) (v := nI (i + 1)) rfl rfl rfl (nI_1 i) rfl ?_
        refine g_goto (pc' := 4) rfl rfl ?_
        exact ih (i + 1) _ (by omega) (by rw [ha]; show _ = if _ then _ else _; rw [if_pos q]; rfl)
      · refine g_if_eq (pc' := 19) (t := 25) rfl rfl rfl (fun _ => ?_) (fun c => absurd c (by decide))
        refine g_iconst (pc' := 26) (v := 0) rfl rfl (by decide) ?_
        refine g_ior (pc' := 27) rfl rfl ?_
        refine g_istore_n (pc' := 28) rfl rfl rfl ?_
        refine g_iinc (pc' := 31) (v := nI (i + 1)) rfl rfl rfl (nI_1 i) rfl ?_
        refine g_goto (pc' := 4) rfl rfl ?_
        exact ih (i + 1) _ (by omega) (by rw [ha]; show _ = if _ then _ else _; rw [if_neg q, i_or0])
  refine g_iconst (pc' := 1) (v := 0) rfl rfl (by decide) ?_
  refine g_istore_n (pc' := 2) rfl rfl rfl ?_
  refine g_iconst (pc' := 3) (v := 0) rfl rfl (by decide) ?_
  refine g_istore_n (pc' := 4) rfl rfl rfl ?_
  exact loop 10 0 0 rfl rfl
theorem d_nutsOf {c : Int32} (h : K (nutsB (stAt m 53) c) m) : gCi X 136 [.ref 53, .int c] m K := by
  refine g_inI rfl ?_
  have loop : ∀ (d i : Nat) (acc : Int32), i + d = 10 → acc = fN (fun k a => if sO (stAt m 53) k = c ∧ ¬ sC (stAt m 53) k = 3 then a ||| bit k else a) i 0 → gG X 136 4 [.ref 53, .int c, .int acc, .int (nI i)] [] m (fun r m' => ∃ v, r = some (.int v) ∧ K v m') := by
    intro d
    induction d with
    | zero =>
      intro i acc hd ha
      have hi : i = 10 := by omega
      subst hi
      refine g_iload_n (pc' := 5) rfl rfl rfl ?_
      refine g_bipush (pc' := 7) (v := 10) rfl rfl (by decide) ?_
      refine g_icmp_ge (pc' := 10) (t := 44) rfl rfl rfl (fun c_7 => ?_) (fun c_7 => absurd (by decide) c_7)
      refine g_iload_n (pc' := 45) rfl rfl rfl ?_
      exact g_ireturn rfl rfl (g_eq h ha rfl)
    | succ d ih =>
      intro i acc hd ha
      have hlt : i < 10 := by omega
      refine g_iload_n (pc' := 5) rfl rfl rfl ?_
      refine g_bipush (pc' := 7) (v := 10) rfl rfl (by decide) ?_
      refine g_icmp_ge (pc' := 10) (t := 44) rfl rfl rfl (fun c_7 => absurd c_7 (nI_ge (b := 10) hlt (by decide))) (fun c_7 => ?_)
      refine g_iload_n (pc' := 11) rfl rfl rfl ?_
      refine g_aload_n (pc' := 12) rfl rfl rfl ?_
      refine g_getr (pc' := 15) rfl rfl (f_11_3) ?_
      refine g_iload_n (pc' := 16) rfl rfl rfl ?_
      refine g_iald (pc' := 17) rfl rfl (a_57) hlt rfl ?_
      refine g_vi (y := sO (stAt m 53) i) (r_O hlt) ?_
      refine g_iload_n (pc' := 18) rfl rfl rfl ?_
      refine g_icmp_ne (pc' := 21) (t := 35) rfl rfl rfl (fun c_18 => ?_) (fun c_18 => ?_)
      · refine g_iconst (pc' := 36) (v := 0) rfl rfl (by decide) ?_
        refine g_ior (pc' := 37) rfl rfl ?_
        refine g_istore_n (pc' := 38) rfl rfl rfl ?_
        refine g_iinc (pc' := 41) (v := nI (i + 1)) rfl rfl rfl (nI_1 i) rfl ?_
        refine g_goto (pc' := 4) rfl rfl ?_
        exact ih (i + 1) _ (by omega) (by rw [ha]; show _ = if _ then _ else _; rw [if_neg (fun z => c_18 z.1), i_or0])
      · refine g_aload_n (pc' := 22) rfl rfl rfl ?_
        refine g_iload_n (pc' := 23) rfl rfl rfl ?_
        refine g_calli (pc' := 26) rfl rfl rfl rfl (Or.inr rfl) ?_
        refine d_isBroken hlt (fun q => ?_) (fun q => ?_)
        · refine g_if_ne (pc' := 29) (t := 35) rfl rfl rfl (fun _ => ?_) (fun c => absurd c (by decide))
          refine g_iconst (pc' := 36) (v := 0) rfl rfl (by decide) ?_
          refine g_ior (pc' := 37) rfl rfl ?_
          refine g_istore_n (pc' := 38) rfl rfl rfl ?_
          refine g_iinc (pc' := 41) (v := nI (i + 1)) rfl rfl rfl (nI_1 i) rfl ?_
          refine g_goto (pc' := 4) rfl rfl ?_
          exact ih (i + 1) _ (by omega) (by rw [ha]; show _ = if _ then _ else _; rw [if_neg (fun z => z.2 q), i_or0])
        · refine g_if_ne (pc' := 29) (t := 35) rfl rfl rfl (fun c => absurd c (by decide)) (fun _ => ?_)
          refine g_iconst (pc' := 30) (v := 1) rfl rfl (by decide) ?_
          refine g_iload_n (pc' := 31) rfl rfl rfl ?_
          refine g_ishl (pc' := 32) rfl rfl ?_
          refine g_goto (pc' := 36) rfl rfl ?_
          refine g_ior (pc' := 37) rfl rfl ?_
          refine g_istore_n (pc' := 38) rfl rfl rfl ?_
          refine g_iinc (pc' := 41) (v := nI (i + 1)) rfl rfl rfl (nI_1 i) rfl ?_
          refine g_goto (pc' := 4) rfl rfl ?_
          exact ih (i + 1) _ (by omega) (by rw [ha]; show _ = if _ then _ else _; rw [if_pos ⟨c_18, q⟩]; rfl)
  refine g_iconst (pc' := 1) (v := 0) rfl rfl (by decide) ?_
  refine g_istore_n (pc' := 2) rfl rfl rfl ?_
  refine g_iconst (pc' := 3) (v := 0) rfl rfl (by decide) ?_
  refine g_istore_n (pc' := 4) rfl rfl rfl ?_
  exact loop 10 0 0 rfl rfl
def bestMs (s : aStr) (k : Nat) (b : Int32) : Int32 := if sC s k = 3 then b else if b < 0 then nI k else if sS s k ≤ sS s (ix b) then b else nI k
def bestM (s : aStr) : Int32 := fN (bestMs s) 10 (-6)
theorem bestM_in (s : aStr) : ∀ i, i ≤ 10 → fN (bestMs s) i (-6) = -6 ∨ ∃ k, k < 10 ∧ fN (bestMs s) i (-6) = nI k := by
  intro i
  induction i with
  | zero => intro _; exact Or.inl rfl
  | succ i ih =>
    intro hi
    show bestMs s i (fN (bestMs s) i (-6)) = -6 ∨ ∃ k, k < 10 ∧ bestMs s i (fN (bestMs s) i (-6)) = nI k
    unfold bestMs
    split
    · exact ih (by omega)
    · split
      · exact Or.inr ⟨i, by omega, rfl⟩
      · split
        · exact ih (by omega)
        · exact Or.inr ⟨i, by omega, rfl⟩
theorem d_bestNut (h : K (bestM (stAt m 53)) m) : gCi X 140 [.ref 53] m K := by
  refine g_inI rfl ?_
  have loop : ∀ (d i : Nat) (b : Int32), i + d = 10 → b = fN (bestMs (stAt m 53)) i (-6) → gG X 140 5 [.ref 53, .int b, .int (nI i)] [] m (fun r m' => ∃ v, r = some (.int v) ∧ K v m') := by
    intro d
    induction d with
    | zero =>
      intro i b hd ha
      have hi : i = 10 := by omega
      subst hi
      refine g_iload_n (pc' := 6) rfl rfl rfl ?_
      refine g_bipush (pc' := 8) (v := 10) rfl rfl (by decide) ?_
      refine g_icmp_ge (pc' := 11) (t := 50) rfl rfl rfl (fun c_8 => ?_) (fun c_8 => absurd (by decide) c_8)
      refine g_iload_n (pc' := 51) rfl rfl rfl ?_
      exact g_ireturn rfl rfl (g_eq h ha rfl)
    | succ d ih =>
      intro i b hd ha
      have hlt : i < 10 := by omega
      refine g_iload_n (pc' := 6) rfl rfl rfl ?_
      refine g_bipush (pc' := 8) (v := 10) rfl rfl (by decide) ?_
      refine g_icmp_ge (pc' := 11) (t := 50) rfl rfl rfl (fun c_8 => absurd c_8 (nI_ge (b := 10) hlt (by decide))) (fun c_8 => ?_)
      refine g_aload_n (pc' := 12) rfl rfl rfl ?_
      refine g_iload_n (pc' := 13) rfl rfl rfl ?_
      refine g_calli (pc' := 16) rfl rfl rfl rfl (Or.inr rfl) ?_
      refine d_isBroken hlt (fun q => ?_) (fun q => ?_)
      · refine g_if_ne (pc' := 19) (t := 42) rfl rfl rfl (fun _ => ?_) (fun c => absurd c (by decide))
        refine g_iload_n (pc' := 43) rfl rfl rfl ?_
        refine g_istore_n (pc' := 44) rfl rfl rfl ?_
        refine g_iinc (pc' := 47) (v := nI (i + 1)) rfl rfl rfl (nI_1 i) rfl ?_
        refine g_goto (pc' := 5) rfl rfl ?_
        exact ih (i + 1) _ (by omega) (by show _ = bestMs _ _ _; rw [← ha]; unfold bestMs; rw [if_pos q])
      · refine g_if_ne (pc' := 19) (t := 42) rfl rfl rfl (fun c => absurd c (by decide)) (fun _ => ?_)
        refine g_iload_n (pc' := 20) rfl rfl rfl ?_
        refine g_if_lt (pc' := 23) (t := 38) rfl rfl rfl (fun c_20 => ?_) (fun c_20 => ?_)
        · refine g_iload_n (pc' := 39) rfl rfl rfl ?_
          refine g_goto (pc' := 43) rfl rfl ?_
          refine g_istore_n (pc' := 44) rfl rfl rfl ?_
          refine g_iinc (pc' := 47) (v := nI (i + 1)) rfl rfl rfl (nI_1 i) rfl ?_
          refine g_goto (pc' := 5) rfl rfl ?_
          exact ih (i + 1) _ (by omega) (by show _ = bestMs _ _ _; rw [← ha]; unfold bestMs; rw [if_neg q, if_pos c_20])
        · obtain ⟨kb, hkb, eb⟩ : ∃ k, k < 10 ∧ b = nI k := by
            rcases bestM_in (stAt m 53) i (by omega) with z | ⟨k, hk, z⟩
            · exact absurd (by rw [ha, z]; decide) c_20
            · exact ⟨k, hk, ha.trans z⟩
          refine g_aload_n (pc' := 24) rfl rfl rfl ?_
          refine g_getr (pc' := 27) rfl rfl (f_11_2) ?_
          refine g_iload_n (pc' := 28) rfl rfl rfl ?_
          refine g_iald (pc' := 29) rfl rfl (a_56) hlt rfl ?_
          refine g_vi (y := sS (stAt m 53) i) (r_S hlt) ?_
          refine g_aload_n (pc' := 30) rfl rfl rfl ?_
          refine g_getr (pc' := 33) rfl rfl (f_11_2) ?_
          refine g_iload_n (pc' := 34) rfl rfl rfl ?_
          refine g_iald (pc' := 35) rfl rfl (a_56) hkb eb ?_
          refine g_vi (y := sS (stAt m 53) kb) (r_S hkb) ?_
          refine g_icmp_le (pc' := 38) (t := 42) rfl rfl rfl (fun c_35 => ?_) (fun c_35 => ?_)
          · refine g_iload_n (pc' := 43) rfl rfl rfl ?_
            refine g_istore_n (pc' := 44) rfl rfl rfl ?_
            refine g_iinc (pc' := 47) (v := nI (i + 1)) rfl rfl rfl (nI_1 i) rfl ?_
            refine g_goto (pc' := 5) rfl rfl ?_
            exact ih (i + 1) _ (by omega) (by show _ = bestMs _ _ _; rw [← ha]; unfold bestMs; rw [if_neg q, if_neg c_20, if_pos (by rw [eb, ix_nI (by omega)]; exact c_35)])
          · refine g_iload_n (pc' := 39) rfl rfl rfl ?_
            refine g_goto (pc' := 43) rfl rfl ?_
            refine g_istore_n (pc' := 44) rfl rfl rfl ?_
            refine g_iinc (pc' := 47) (v := nI (i + 1)) rfl rfl rfl (nI_1 i) rfl ?_
            refine g_goto (pc' := 5) rfl rfl ?_
            exact ih (i + 1) _ (by omega) (by show _ = bestMs _ _ _; rw [← ha]; unfold bestMs; rw [if_neg q, if_neg c_20, if_neg (by rw [eb, ix_nI (by omega)]; exact c_35)])
  refine g_bipush (pc' := 2) (v := -6) rfl rfl (by decide) ?_
  refine g_istore_n (pc' := 3) rfl rfl rfl ?_
  refine g_iconst (pc' := 4) (v := 0) rfl rfl (by decide) ?_
  refine g_istore_n (pc' := 5) rfl rfl rfl ?_
  exact loop 10 0 (-6) rfl rfl
end M1
