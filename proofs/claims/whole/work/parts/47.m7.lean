/-! THE MODEL: nuts, tellings, sights, years -/
section M7
variable {X : aX} {m : aMem} {A : aA} {K : Int32 → aMem → Prop}
theorem l_bm {z : Int} (h1 : 0 ≤ z) (h2 : z < 2 ^ 63) : z.bmod (2 ^ 64) = z := by
  rw [Int.bmod_eq_of_le (by omega) (by omega)]
theorem l_remT {a : Int64} {z d : Nat} {b : Int64} (ha : a.toInt = z) (hb : b.toInt = d) (hz : z < 2 ^ 31) (hd : 0 < d) (hd2 : d < 2 ^ 31) : (a - a / b * b).toInt = ((z % d : Nat) : Int) := by
  have hq : z / d ≤ z := Nat.div_le_self _ _
  have hm : z / d * d ≤ z := Nat.div_mul_le_self _ _
  have hr : z % d = z - z / d * d := by have := Nat.div_add_mod z d; rw [Nat.mul_comm] at this; omega
  have e1 : (a / b).toInt = ((z / d : Nat) : Int) := by
    rw [Int64.toInt_div, ha, hb, ← Int.ofNat_tdiv]
    generalize z / d = u at hq ⊢
    exact l_bm (by omega) (by omega)
  have e2 : (a / b * b).toInt = ((z / d * d : Nat) : Int) := by
    rw [Int64.toInt_mul, e1, hb, ← Int.natCast_mul]
    exact l_bm (by omega) (by omega)
  rw [Int64.toInt_sub, ha, e2, hr]
  rw [l_bm (by omega) (by omega)]
  omega
theorem l_i {a : Int64} {z : Nat} (h : a.toInt = z) (hz : z < 2 ^ 31) : a.toInt32 = nI z := by
  rw [← Int32.toInt_inj, Int64.toInt_toInt32, h, nI_toInt hz]
  rw [Int.bmod_eq_of_le (by omega) (by omega)]
theorem yX_l {x : Nat} (h : x < 65537) : ((75 * (nI x).toInt64 + 74) - (75 * (nI x).toInt64 + 74) / 65537 * 65537 : Int64).toInt32 = nI (yX x) := by
  have e : (75 * (nI x).toInt64 + 74 : Int64).toInt = ((75 * x + 74 : Nat) : Int) := by
    rw [Int64.toInt_add, Int64.toInt_mul, Int32.toInt_toInt64, nI_toInt (by omega)]
    rw [show (75 : Int64).toInt = 75 by decide, show (74 : Int64).toInt = 74 by decide, l_bm (z := 75 * (x : Int)) (by omega) (by omega), l_bm (z := 75 * (x : Int) + 74) (by omega) (by omega)]
    omega
  exact l_i (l_remT e (show (65537 : Int64).toInt = ((65537 : Nat) : Int) by decide) (by omega) (by decide) (by decide)) (by have := yX_lt x; omega)
theorem KP.w5 {m1 : aMem} {o i : Nat} {v : Int32} (h : KP m m1) (ho : 53 < o) (ho2 : o < 59) : KP m (am_wi m1.1 o i v, m1.2) := h.tr (KP.of_fr (Fr.rf.s (by omega) ho2) (fun i _ _ => by show am_wi m1.1 o _ v 53 i = _; rw [am_wi_n (by omega)]))
theorem d_nut {x hd c o : Int32} (hM : MI m A) (h : ∀ m', Fr 53 73 m m' → MI m' (r_nut A x hd c o).2 → K (r_nut A x hd c o).1 m') : gCi X 111 [.ref 53, .int x, .int hd, .int c, .int o] m K := by
  refine g_inI rfl ?_
  refine g_iload_n (pc' := 1) rfl rfl rfl ?_
  refine g_calli (pc' := 4) rfl rfl rfl rfl (Or.inl rfl) ?_
  refine d_isNut (fun k hk ek => ?_) (fun x0 => ?_)
  · refine g_if_eq (pc' := 7) (t := 15) rfl rfl rfl (fun c => absurd c (by decide)) (fun _ => ?_)
    refine g_iload (pc' := 9) rfl rfl rfl ?_
    refine g_calli (pc' := 12) rfl rfl rfl rfl (Or.inl rfl) ?_
    refine d_isChild (fun kc hkc ekc => ?_) (fun o0 => ?_)
    · have hno : ¬ (¬ (0 ≤ x ∧ x ≤ 9) ∨ ¬ (0 ≤ o ∧ o ≤ 3)) := fun z => z.elim (nn (by rw [ek]; exact rn_9 hk)) (nn (by rw [ekc]; exact rn_3 hkc))
      refine g_if_ne (pc' := 15) (t := 17) rfl rfl rfl (fun _ => ?_) (fun c => absurd c (by decide))
      refine g_iload_n (pc' := 18) rfl rfl rfl ?_
      refine g_i2l (pc' := 19) rfl rfl ?_
      refine g_lconst (pc' := 20) (v := 1) rfl rfl (by decide) ?_
      refine g_ldc2_w (pc' := 23) (v := 99) rfl rfl (by decide) ?_
      refine g_calli (pc' := 26) rfl rfl rfl rfl (Or.inl rfl) ?_
      refine d_in (lo := 1) (hi := 99) (by decide) (by decide) (fun u1 u2 => ?_) (fun u0 => ?_)
      · refine g_if_eq (pc' := 29) (t := 41) rfl rfl rfl (fun c => absurd c (by decide)) (fun _ => ?_)
        refine g_iload_n (pc' := 30) rfl rfl rfl ?_
        refine g_i2l (pc' := 31) rfl rfl ?_
        refine g_lconst (pc' := 32) (v := 0) rfl rfl (by decide) ?_
        refine g_ldc2_w (pc' := 35) (v := 2) rfl rfl (by decide) ?_
        refine g_calli (pc' := 38) rfl rfl rfl rfl (Or.inl rfl) ?_
        refine d_in (lo := 0) (hi := 2) (by decide) (by decide) (fun w1 w2 => ?_) (fun w0 => ?_)
        · have er : r_nut A x hd c o = (sS (aS A) k, setA A (setS (aS A) k hd c o)) := by unfold r_nut; rw [if_neg hno, if_neg (fun z => z.elim (nn ⟨u1, u2⟩) (nn ⟨w1, w2⟩)), ek, ix_nI (by omega)]
          subst ek
          refine g_if_ne (pc' := 41) (t := 44) rfl rfl rfl (fun _ => ?_) (fun c => absurd c (by decide))
          refine g_aload_n (pc' := 45) rfl rfl rfl ?_
          refine g_getr (pc' := 48) rfl rfl (f_11_2) ?_
          refine g_iload_n (pc' := 49) rfl rfl rfl ?_
          refine g_iald (pc' := 50) rfl rfl (a_56) hk rfl ?_
          refine g_vi (y := sS (aS A) k) (by rw [r_S hk, hM.1]) ?_
          refine g_istore (pc' := 52) rfl rfl rfl ?_
          refine g_aload_n (pc' := 53) rfl rfl rfl ?_
          refine g_getr (pc' := 56) rfl rfl (f_11_0) ?_
          refine g_iload_n (pc' := 57) rfl rfl rfl ?_
          refine g_iload_n (pc' := 58) rfl rfl rfl ?_
          refine g_iast (pc' := 59) rfl rfl (a_54) hk rfl ?_
          refine g_aload_n (pc' := 60) rfl rfl rfl ?_
          refine g_getr (pc' := 63) rfl rfl (f_11_1) ?_
          refine g_iload_n (pc' := 64) rfl rfl rfl ?_
          refine g_iload_n (pc' := 65) rfl rfl rfl ?_
          refine g_iast (pc' := 66) rfl rfl (a_55) hk rfl ?_
          refine g_aload_n (pc' := 67) rfl rfl rfl ?_
          refine g_getr (pc' := 70) rfl rfl (f_11_3) ?_
          refine g_iload_n (pc' := 71) rfl rfl rfl ?_
          refine g_iload (pc' := 73) rfl rfl rfl ?_
          refine g_iast (pc' := 74) rfl rfl (a_57) hk rfl ?_
          refine g_aload_n (pc' := 75) rfl rfl rfl ?_
          refine g_getr (pc' := 78) rfl rfl (f_11_2) ?_
          refine g_iload_n (pc' := 79) rfl rfl rfl ?_
          refine g_iconst (pc' := 80) (v := 1) rfl rfl (by decide) ?_
          refine g_iast (pc' := 81) rfl rfl (a_56) hk rfl ?_
          refine g_aload_n (pc' := 82) rfl rfl rfl ?_
          refine g_getr (pc' := 85) rfl rfl (f_11_4) ?_
          refine g_iload_n (pc' := 86) rfl rfl rfl ?_
          refine g_iconst (pc' := 87) (v := 1) rfl rfl (by decide) ?_
          refine g_iload_n (pc' := 88) rfl rfl rfl ?_
          refine g_ishl (pc' := 89) rfl rfl ?_
          refine g_iast (pc' := 90) rfl rfl (a_58) hk rfl ?_
          refine g_iload (pc' := 92) rfl rfl rfl ?_
          exact g_ireturn rfl rfl (have kp : KP m _ := ((((KP.rf.w5 (by decide) (by decide)).w5 (by decide) (by decide)).w5 (by decide) (by decide)).w5 (by decide) (by decide)).w5 (by decide) (by decide)
              mf h er kp.fr (kp.mi hM (by rw [w_I hk, w_S hk, w_O hk, w_C hk, w_H hk, hM.1]; rfl)))
        · refine g_if_ne (pc' := 41) (t := 44) rfl rfl rfl (fun c => absurd c (by decide)) (fun _ => ?_)
          refine g_bipush (pc' := 43) (v := -2) rfl rfl (by decide) ?_
          exact g_ireturn rfl rfl (mf h (by unfold r_nut; rw [if_neg hno, if_pos (Or.inr w0)]) Fr.rf hM)
      · refine g_if_eq (pc' := 29) (t := 41) rfl rfl rfl (fun _ => ?_) (fun c => absurd c (by decide))
        refine g_bipush (pc' := 43) (v := -2) rfl rfl (by decide) ?_
        exact g_ireturn rfl rfl (mf h (by unfold r_nut; rw [if_neg hno, if_pos (Or.inl u0)]) Fr.rf hM)
    · refine g_if_ne (pc' := 15) (t := 17) rfl rfl rfl (fun c => absurd c (by decide)) (fun _ => ?_)
      refine g_iconst (pc' := 16) (v := -1) rfl rfl (by decide) ?_
      exact g_ireturn rfl rfl (mf h (by unfold r_nut; rw [if_pos (Or.inr o0)]) Fr.rf hM)
  · refine g_if_eq (pc' := 7) (t := 15) rfl rfl rfl (fun _ => ?_) (fun c => absurd c (by decide))
    refine g_iconst (pc' := 16) (v := -1) rfl rfl (by decide) ?_
    exact g_ireturn rfl rfl (mf h (by unfold r_nut; rw [if_pos (Or.inl x0)]) Fr.rf hM)
theorem d_told0 (hM : MI m A) (h : ∀ m', Fr 53 73 m m' → MI m' (r_told A 0).2 → K (r_told A 0).1 m') : gCi X 177 [.ref 53, .int 0] m K := by
  refine g_inI rfl ?_
  refine g_iload_n (pc' := 1) rfl rfl rfl ?_
  refine g_i2l (pc' := 2) rfl rfl ?_
  refine g_ldc2_w (pc' := 5) (v := 10) rfl rfl (by decide) ?_
  refine g_ldc2_w (pc' := 8) (v := 59) rfl rfl (by decide) ?_
  refine g_calli (pc' := 11) rfl rfl rfl rfl (Or.inl rfl) ?_
  refine d_in (lo := 10) (hi := 59) (by decide) (by decide) (fun u1 u2 => ?_) (fun u0 => ?_)
  · exact absurd u1 (by decide)
  · refine g_if_eq (pc' := 14) (t := 29) rfl rfl rfl (fun _ => ?_) (fun c => absurd c (by decide))
    refine g_iload_n (pc' := 30) rfl rfl rfl ?_
    skip
    refine g_tabI (pc' := 60) rfl (by decide) rfl rfl ?_
    refine g_aload_n (pc' := 61) rfl rfl rfl ?_
    refine g_geti (pc' := 64) rfl rfl (i_11_10) ?_
    refine g_vi (y := nI (aN A)) (hM.2.1) ?_
    exact g_ireturn rfl rfl (mf h (by unfold r_told; rw [if_pos rfl]) Fr.rf hM)
theorem d_told1 (hM : MI m A) (h : ∀ m', Fr 53 73 m m' → MI m' (r_told A 1).2 → K (r_told A 1).1 m') : gCi X 177 [.ref 53, .int 1] m K := by
  refine g_inI rfl ?_
  refine g_iload_n (pc' := 1) rfl rfl rfl ?_
  refine g_i2l (pc' := 2) rfl rfl ?_
  refine g_ldc2_w (pc' := 5) (v := 10) rfl rfl (by decide) ?_
  refine g_ldc2_w (pc' := 8) (v := 59) rfl rfl (by decide) ?_
  refine g_calli (pc' := 11) rfl rfl rfl rfl (Or.inl rfl) ?_
  refine d_in (lo := 10) (hi := 59) (by decide) (by decide) (fun u1 u2 => ?_) (fun u0 => ?_)
  · exact absurd u1 (by decide)
  · refine g_if_eq (pc' := 14) (t := 29) rfl rfl rfl (fun _ => ?_) (fun c => absurd c (by decide))
    refine g_iload_n (pc' := 30) rfl rfl rfl ?_
    skip
    refine g_tabI (pc' := 65) rfl (by decide) rfl rfl ?_
    refine g_aload_n (pc' := 66) rfl rfl rfl ?_
    refine g_calli (pc' := 69) rfl rfl rfl rfl (Or.inr rfl) ?_
    refine d_broken ?_
    exact g_ireturn rfl rfl (g_eq (mf h (by unfold r_told; rw [if_neg (by decide), if_pos rfl]) Fr.rf hM) (by rw [hM.1]) rfl)
theorem d_told2 (hM : MI m A) (h : ∀ m', Fr 53 73 m m' → MI m' (r_told A 2).2 → K (r_told A 2).1 m') : gCi X 177 [.ref 53, .int 2] m K := by
  refine g_inI rfl ?_
  refine g_iload_n (pc' := 1) rfl rfl rfl ?_
  refine g_i2l (pc' := 2) rfl rfl ?_
  refine g_ldc2_w (pc' := 5) (v := 10) rfl rfl (by decide) ?_
  refine g_ldc2_w (pc' := 8) (v := 59) rfl rfl (by decide) ?_
  refine g_calli (pc' := 11) rfl rfl rfl rfl (Or.inl rfl) ?_
  refine d_in (lo := 10) (hi := 59) (by decide) (by decide) (fun u1 u2 => ?_) (fun u0 => ?_)
  · exact absurd u1 (by decide)
  · refine g_if_eq (pc' := 14) (t := 29) rfl rfl rfl (fun _ => ?_) (fun c => absurd c (by decide))
    refine g_iload_n (pc' := 30) rfl rfl rfl ?_
    skip
    refine g_tabI (pc' := 70) rfl (by decide) rfl rfl ?_
    refine g_aload_n (pc' := 71) rfl rfl rfl ?_
    refine g_geti (pc' := 74) rfl rfl (i_11_5) ?_
    refine g_vi (y := sD (aS A)) (by rw [← hM.1]; rfl) ?_
    exact g_ireturn rfl rfl (mf h (by unfold r_told; rw [if_neg (by decide), if_neg (by decide), if_pos rfl]) Fr.rf hM)
theorem d_told3 (hM : MI m A) (h : ∀ m', Fr 53 73 m m' → MI m' (r_told A 3).2 → K (r_told A 3).1 m') : gCi X 177 [.ref 53, .int 3] m K := by
  refine g_inI rfl ?_
  refine g_iload_n (pc' := 1) rfl rfl rfl ?_
  refine g_i2l (pc' := 2) rfl rfl ?_
  refine g_ldc2_w (pc' := 5) (v := 10) rfl rfl (by decide) ?_
  refine g_ldc2_w (pc' := 8) (v := 59) rfl rfl (by decide) ?_
  refine g_calli (pc' := 11) rfl rfl rfl rfl (Or.inl rfl) ?_
  refine d_in (lo := 10) (hi := 59) (by decide) (by decide) (fun u1 u2 => ?_) (fun u0 => ?_)
  · exact absurd u1 (by decide)
  · refine g_if_eq (pc' := 14) (t := 29) rfl rfl rfl (fun _ => ?_) (fun c => absurd c (by decide))
    refine g_iload_n (pc' := 30) rfl rfl rfl ?_
    skip
    refine g_tabI (pc' := 75) rfl (by decide) rfl rfl ?_
    refine g_aload_n (pc' := 76) rfl rfl rfl ?_
    refine g_geti (pc' := 79) rfl rfl (i_11_8) ?_
    refine g_vi (y := (aT A).1) (congrArg (fun q : aSg => q.1) hM.2.2.2.1) ?_
    exact g_ireturn rfl rfl (mf h (by unfold r_told; rw [if_neg (by decide), if_neg (by decide), if_neg (by decide), if_pos rfl]) Fr.rf hM)
theorem d_toldX {w : Int32} (hM : MI m A) (ho : w.toInt < 0 ∨ 3 < w.toInt) (h : ∀ m', Fr 53 73 m m' → MI m' (r_told A w).2 → K (r_told A w).1 m') : gCi X 177 [.ref 53, .int w] m K := by
  refine g_inI rfl ?_
  have h0 : ¬ w = 0 := fun z => by rw [z] at ho; exact absurd ho (by decide)
  have h1 : ¬ w = 1 := fun z => by rw [z] at ho; exact absurd ho (by decide)
  have h2 : ¬ w = 2 := fun z => by rw [z] at ho; exact absurd ho (by decide)
  have h3 : ¬ w = 3 := fun z => by rw [z] at ho; exact absurd ho (by decide)
  refine g_iload_n (pc' := 1) rfl rfl rfl ?_
  refine g_i2l (pc' := 2) rfl rfl ?_
  refine g_ldc2_w (pc' := 5) (v := 10) rfl rfl (by decide) ?_
  refine g_ldc2_w (pc' := 8) (v := 59) rfl rfl (by decide) ?_
  refine g_calli (pc' := 11) rfl rfl rfl rfl (Or.inl rfl) ?_
  refine d_in (lo := 10) (hi := 59) (by decide) (by decide) (fun u1 u2 => ?_) (fun u0 => ?_)
  · refine g_if_eq (pc' := 14) (t := 29) rfl rfl rfl (fun c => absurd c (by decide)) (fun _ => ?_)
    obtain ⟨k, hk, e⟩ := i_rng (a := 10) (b := 59) rfl rfl (by decide) (by decide) u1 u2
    have er : r_told A w = (traitV (aS A) ((10 + k) % 10) ((10 + k) / 10 - 1), A) := by unfold r_told; rw [if_neg h0, if_neg h1, if_neg h2, if_neg h3, if_pos ⟨u1, u2⟩, e, ix_nI (by omega)]
    subst e
    refine g_aload_n (pc' := 15) rfl rfl rfl ?_
    refine g_iload_n (pc' := 16) rfl rfl rfl ?_
    refine g_bipush (pc' := 18) (v := 10) rfl rfl (by decide) ?_
    refine g_irem (pc' := 19) rfl rfl (by decide) ?_
    refine g_vi (y := nI ((10 + k) % 10)) (i_rem (by omega) (by decide) (by decide)) ?_
    refine g_iload_n (pc' := 20) rfl rfl rfl ?_
    refine g_bipush (pc' := 22) (v := 10) rfl rfl (by decide) ?_
    refine g_idiv (pc' := 23) rfl rfl (by decide) ?_
    refine g_vi (y := nI ((10 + k) / 10)) (i_div (by omega) (by decide) (by decide)) ?_
    refine g_iconst (pc' := 24) (v := 1) rfl rfl (by decide) ?_
    refine g_isub (pc' := 25) rfl rfl ?_
    refine g_vi (y := nI ((10 + k) / 10 - 1)) (pk_sub (a := (10 + k) / 10) (b := 1) (by omega)) ?_
    refine g_calli (pc' := 28) rfl rfl rfl rfl (Or.inr rfl) ?_
    refine d_ofNut (Nat.mod_lt _ (by decide)) (by omega) ?_
    exact g_ireturn rfl rfl (g_eq (mf h er Fr.rf hM) (by rw [hM.1]) rfl)
  · refine g_if_eq (pc' := 14) (t := 29) rfl rfl rfl (fun _ => ?_) (fun c => absurd c (by decide))
    refine g_iload_n (pc' := 30) rfl rfl rfl ?_
    skip
    refine g_tabO (pc' := 80) rfl ho rfl ?_
    refine g_bipush (pc' := 82) (v := -2) rfl rfl (by decide) ?_
    exact g_ireturn rfl rfl (mf h (by unfold r_told; rw [if_neg h0, if_neg h1, if_neg h2, if_neg h3, if_neg u0]) Fr.rf hM)
theorem d_told {w : Int32} (hM : MI m A) (h : ∀ m', Fr 53 73 m m' → MI m' (r_told A w).2 → K (r_told A w).1 m') : gCi X 177 [.ref 53, .int w] m K := by
  by_cases ho : w.toInt < 0 ∨ 3 < w.toInt
  · exact d_toldX hM ho h
  · have h0 : 0 ≤ w := by
      rw [Int32.le_iff_toInt_le]
      have : (0 : Int32).toInt = 0 := by decide
      omega
    have h3 : w ≤ 3 := by
      rw [Int32.le_iff_toInt_le]
      have : (3 : Int32).toInt = 3 := by decide
      omega
    obtain ⟨j, hj, e⟩ := i_in (n := 3) (by decide) h0 h3
    rcases (show j = 0 ∨ j = 1 ∨ j = 2 ∨ j = 3 by omega) with rfl | rfl | rfl | rfl <;> subst e
    · exact d_told0 hM h
    · exact d_told1 hM h
    · exact d_told2 hM h
    · exact d_told3 hM h
theorem mi_sg {m' : aMem} {T' : aSg} (hM : MI m A) (f : ∀ q, q ≠ 53 → q ≠ 59 → q ≠ 60 → m'.1 q = m.1 q) (f5 : ∀ i, i ≠ 8 → m'.1 53 i = m.1 53 i) (hs : sgM m' = T') : MI m' (A.1, A.2.1, T', A.2.2.2) := by
  obtain ⟨h1, h2, h3, h4, h5, h6⟩ := hM
  have im : ∀ k i, imM m k i → imM m' k i := fun k i hi => by
    cases i with
    | none => exact (congrFun (f 72 (by decide) (by decide) (by decide)) k).trans hi
    | some q =>
      refine ⟨(congrFun (f 72 (by decide) (by decide) (by decide)) k).trans hi.1, ?_, ?_⟩
      · rw [← hi.2.1]; unfold stK; rw [f 71 (by decide) (by decide) (by decide)]
      · rw [← hi.2.2]; unfold sgK; rw [f 71 (by decide) (by decide) (by decide)]
  refine ⟨?_, (f5 10 (by decide)).trans h2, ?_, hs, im 0 _ h5, im 1 _ h6⟩
  · show stAt m' 53 = aS A
    rw [← h1]
    unfold stAt
    rw [f5 5 (by decide), f (53 + 1) (by decide) (by decide) (by decide), f (53 + 2) (by decide) (by decide) (by decide), f (53 + 3) (by decide) (by decide) (by decide), f (53 + 4) (by decide) (by decide) (by decide), f (53 + 5) (by decide) (by decide) (by decide)]
  · show sg (aN A) (m'.1 61) = aG A
    rw [f 61 (by decide) (by decide) (by decide)]; exact h3
theorem d_harder {x y : Int32} (hM : MI m A) {n : Nat} (hn : (aT A).1 = nI n) (h8 : n ≤ 8) (h : ∀ m', Fr 53 73 m m' → MI m' (r_harder A x y).2 → K (r_harder A x y).1 m') : gCi X 153 [.ref 53, .int x, .int y] m K := by
  refine g_inI rfl ?_
  have hs : m.1 53 8 = nI n := (congrArg (fun q : aSg => q.1) hM.2.2.2.1).trans hn
  refine g_iload_n (pc' := 1) rfl rfl rfl ?_
  refine g_i2l (pc' := 2) rfl rfl ?_
  refine g_lconst (pc' := 3) (v := 0) rfl rfl (by decide) ?_
  refine g_ldc2_w (pc' := 6) (v := 4) rfl rfl (by decide) ?_
  refine g_calli (pc' := 9) rfl rfl rfl rfl (Or.inl rfl) ?_
  refine d_in (lo := 0) (hi := 4) (by decide) (by decide) (fun u1 u2 => ?_) (fun u0 => ?_)
  · refine g_if_eq (pc' := 12) (t := 29) rfl rfl rfl (fun c => absurd c (by decide)) (fun _ => ?_)
    refine g_iload_n (pc' := 13) rfl rfl rfl ?_
    refine g_i2l (pc' := 14) rfl rfl ?_
    refine g_lconst (pc' := 15) (v := 0) rfl rfl (by decide) ?_
    refine g_ldc2_w (pc' := 18) (v := 4) rfl rfl (by decide) ?_
    refine g_calli (pc' := 21) rfl rfl rfl rfl (Or.inl rfl) ?_
    refine d_in (lo := 0) (hi := 4) (by decide) (by decide) (fun w1 w2 => ?_) (fun w0 => ?_)
    · refine g_if_eq (pc' := 24) (t := 29) rfl rfl rfl (fun c => absurd c (by decide)) (fun _ => ?_)
      refine g_iload_n (pc' := 25) rfl rfl rfl ?_
      refine g_iload_n (pc' := 26) rfl rfl rfl ?_
      refine g_icmp_ne (pc' := 29) (t := 32) rfl rfl rfl (fun c_26 => ?_) (fun c_26 => ?_)
      · have hno : ¬ (¬ (0 ≤ x ∧ x ≤ 4) ∨ ¬ (0 ≤ y ∧ y ≤ 4) ∨ x = y) := fun z => z.elim (nn ⟨u1, u2⟩) (fun z => z.elim (nn ⟨w1, w2⟩) c_26)
        refine g_aload_n (pc' := 33) rfl rfl rfl ?_
        refine g_geti (pc' := 36) rfl rfl (i_11_8) ?_
        refine g_vi (y := nI n) (hs) ?_
        refine g_bipush (pc' := 38) (v := 8) rfl rfl (by decide) ?_
        refine g_icmp_ne (pc' := 41) (t := 44) rfl rfl rfl (fun c_38 => ?_) (fun c_38 => ?_)
        · have hlt : n < 8 := by
            rcases Nat.lt_or_ge n 8 with z | z
            · exact z
            · exact absurd (show nI n = 8 by rw [show n = 8 by omega]; rfl) c_38
          refine g_aload_n (pc' := 45) rfl rfl rfl ?_
          refine g_getr (pc' := 48) rfl rfl (f_11_6) ?_
          refine g_aload_n (pc' := 49) rfl rfl rfl ?_
          refine g_geti (pc' := 52) rfl rfl (i_11_8) ?_
          refine g_vi (y := nI n) (hs) ?_
          refine g_iload_n (pc' := 53) rfl rfl rfl ?_
          refine g_iast (pc' := 54) rfl rfl (a_59) hlt rfl ?_
          refine g_aload_n (pc' := 55) rfl rfl rfl ?_
          refine g_getr (pc' := 58) rfl rfl (f_11_7) ?_
          refine g_aload_n (pc' := 59) rfl rfl rfl ?_
          refine g_geti (pc' := 62) rfl rfl (i_11_8) ?_
          refine g_vi (y := nI n) (by show am_wi m.1 59 n x 53 8 = nI n; rw [am_wi_n (by decide)]; exact hs) ?_
          refine g_iload_n (pc' := 63) rfl rfl rfl ?_
          refine g_iast (pc' := 64) rfl rfl (a_60) hlt rfl ?_
          refine g_aload_n (pc' := 65) rfl rfl rfl ?_
          refine g_dup (pc' := 66) rfl rfl rfl ?_
          refine g_geti (pc' := 69) rfl rfl (i_11_8) ?_
          refine g_vi (y := nI n) (by show am_wi (am_wi m.1 59 n x) 60 n y 53 8 = nI n; rw [am_wi_n (by decide), am_wi_n (by decide)]; exact hs) ?_
          refine g_iconst (pc' := 70) (v := 1) rfl rfl (by decide) ?_
          refine g_iadd (pc' := 71) rfl rfl ?_
          refine g_vi (y := nI (n + 1)) (nI_1 n) ?_
          refine g_puti (pc' := 74) rfl rfl (i_11_8) ?_
          refine g_aload_n (pc' := 75) rfl rfl rfl ?_
          refine g_geti (pc' := 78) rfl rfl (i_11_8) ?_
          refine g_vi (y := nI (n + 1)) (by show am_wi (am_wi (am_wi m.1 59 n x) 60 n y) 53 8 (nI (n + 1)) 53 8 = _; rw [am_wi_s, upd_at]) ?_
          exact g_ireturn rfl rfl (mf (A' := (A.1, A.2.1, (nI (n + 1), upd (aT A).2.1 n x, upd (aT A).2.2 n y), A.2.2.2)) h (by unfold r_harder; rw [if_neg hno, hn, if_pos (show nI n < 8 from nI_lt (b := 8) hlt (by decide)), nI_1, ix_nI (by omega)]) (((Fr.rf.s (by omega) (by omega)).s (by omega) (by omega)).s (by omega) (by omega)) (mi_sg hM (fun q a b c => by show am_wi (am_wi (am_wi m.1 59 n x) 60 n y) 53 8 (nI (n + 1)) q = _; rw [am_wi_n a, am_wi_n c, am_wi_n b]) (fun i hi => by show am_wi (am_wi (am_wi m.1 59 n x) 60 n y) 53 8 (nI (n + 1)) 53 i = _; rw [am_wi_s, upd_ne hi, am_wi_n (by decide), am_wi_n (by decide)]) (by
                rw [← hM.2.2.2.1]
                unfold sgM
                show (am_wi (am_wi (am_wi m.1 59 n x) 60 n y) 53 8 (nI (n + 1)) 53 8, cut 8 (am_wi (am_wi (am_wi m.1 59 n x) 60 n y) 53 8 (nI (n + 1)) 59), cut 8 (am_wi (am_wi (am_wi m.1 59 n x) 60 n y) 53 8 (nI (n + 1)) 60)) = _
                have e1 : am_wi (am_wi (am_wi m.1 59 n x) 60 n y) 53 8 (nI (n + 1)) 59 = upd (m.1 59) n x := by rw [am_wi_n (by decide), am_wi_n (by decide), am_wi_s]
                have e2 : am_wi (am_wi (am_wi m.1 59 n x) 60 n y) 53 8 (nI (n + 1)) 60 = upd (m.1 60) n y := by rw [am_wi_n (by decide), am_wi_s, am_wi_n (by decide)]
                rw [e1, e2, am_wi_s, upd_at, cut_upd hlt, cut_upd hlt])))
        · refine g_bipush (pc' := 43) (v := -4) rfl rfl (by decide) ?_
          exact g_ireturn rfl rfl (mf h (by unfold r_harder; rw [if_neg hno, hn, if_neg (show ¬ nI n < 8 from nI_nlt (b := 8) (by have := (nI_eq (b := 8) (by omega) (by decide)).mp c_38; omega) (by omega))]) Fr.rf hM)
      · refine g_bipush (pc' := 31) (v := -2) rfl rfl (by decide) ?_
        exact g_ireturn rfl rfl (mf h (by unfold r_harder; rw [if_pos (Or.inr (Or.inr c_26))]) Fr.rf hM)
    · refine g_if_eq (pc' := 24) (t := 29) rfl rfl rfl (fun _ => ?_) (fun c => absurd c (by decide))
      refine g_bipush (pc' := 31) (v := -2) rfl rfl (by decide) ?_
      exact g_ireturn rfl rfl (mf h (by unfold r_harder; rw [if_pos (Or.inr (Or.inl w0))]) Fr.rf hM)
  · refine g_if_eq (pc' := 12) (t := 29) rfl rfl rfl (fun _ => ?_) (fun c => absurd c (by decide))
    refine g_bipush (pc' := 31) (v := -2) rfl rfl (by decide) ?_
    exact g_ireturn rfl rfl (mf h (by unfold r_harder; rw [if_pos (Or.inl u0)]) Fr.rf hM)
theorem d_forget (hM : MI m A) (h : ∀ m', Fr 53 73 m m' → MI m' (r_forget A).2 → K (r_forget A).1 m') : gCi X 154 [.ref 53] m K := by
  refine g_inI rfl ?_
  refine g_aload_n (pc' := 1) rfl rfl rfl ?_
  refine g_geti (pc' := 4) rfl rfl (i_11_8) ?_
  refine g_vi (y := (aT A).1) (congrArg (fun q : aSg => q.1) hM.2.2.2.1) ?_
  refine g_istore_n (pc' := 5) rfl rfl rfl ?_
  refine g_aload_n (pc' := 6) rfl rfl rfl ?_
  refine g_iconst (pc' := 7) (v := 0) rfl rfl (by decide) ?_
  refine g_puti (pc' := 10) rfl rfl (i_11_8) ?_
  refine g_iload_n (pc' := 11) rfl rfl rfl ?_
  exact g_ireturn rfl rfl (mf (A' := (A.1, A.2.1, (0, (aT A).2), A.2.2.2)) h rfl (Fr.rf.s (by omega) (by omega)) (mi_sg hM (fun q a _ _ => by show am_wi m.1 53 8 0 q = _; rw [am_wi_n a]) (fun i hi => by show am_wi m.1 53 8 0 53 i = _; rw [am_wi_s, upd_ne hi]) (by
      rw [← hM.2.2.2.1]
      unfold sgM
      show (am_wi m.1 53 8 0 53 8, cut 8 (am_wi m.1 53 8 0 59), cut 8 (am_wi m.1 53 8 0 60)) = _
      rw [am_wi_s, am_wi_n (by decide), am_wi_n (by decide), upd_at])))
theorem d_best2 (h0 : bestM (stAt m 53) = -6 → K (-6) m) (h1 : ∀ k, k < 10 → bestM (stAt m 53) = nI k → K (nI k) m) : gCi X 140 [.ref 53] m K := by
  refine d_bestNut ?_
  rcases bestM_in (stAt m 53) 10 (Nat.le_refl _) with e | ⟨k, hk, e⟩
  · rw [show bestM (stAt m 53) = -6 from e]; exact h0 e
  · rw [show bestM (stAt m 53) = nI k from e]; exact h1 k hk e
theorem hap_kp {m1 : aMem} {v0 v : Int32} (f : Fr 53 59 m m1) (hb : ∀ i, i ≠ 5 → m1.1 53 i = bk (upd (m.1 53) 15 v0) v i) : KP m m1 := KP.of_fr f (fun i a b => by
  rw [hb i a]
  unfold bk
  split
  · rw [upd_ne (by omega)]
  · rw [upd_ne (by omega), upd_ne (by omega), upd_ne (by omega)])
theorem d_yearLoop {Q : Option Value → aMem → Prop} {sd w : Int32} {n x0 Mx : Nat} {m0 : aMem} (hn : n < 100) (hW : WFs Mx (aS A)) (h : ∀ m' x v6 v7 v8 v9, KP m0 m' → m'.1 65 = m.1 65 → stAt m' 53 = (yearN n (aS A) x0).1 → gG X 171 178 [.ref 53, .int sd, .int (nI n), .int w, .int (nI x), .int (nI n), v6, v7, v8, v9] [] m' Q) : ∀ (d i : Nat) (m1 : aMem) (x : Nat) (v6 v7 v8 v9 : Value), i + d = n → x < 65537 → KP m0 m1 → m1.1 65 = m.1 65 → (stAt m1 53, x) = yearN i (aS A) x0 → gG X 171 49 [.ref 53, .int sd, .int (nI n), .int w, .int (nI x), .int (nI i), v6, v7, v8, v9] [] m1 Q := by
  intro d
  induction d with
  | zero =>
    intro i m1 x v6 v7 v8 v9 hd hx hK h65 hs
    have hi : i = n := by omega
    subst hi
    refine g_iload (pc' := 51) rfl rfl rfl ?_
    refine g_iload_n (pc' := 52) rfl rfl rfl ?_
    refine g_icmp_ge (pc' := 55) (t := 178) rfl rfl rfl (fun c_52 => ?_) (fun c_52 => absurd (nI_le (Nat.le_refl i) (by omega)) c_52)
    exact h m1 x v6 v7 v8 v9 hK h65 (congrArg (fun q : aStr × Nat => q.1) hs)
  | succ d ih =>
    intro i m1 x v6 v7 v8 v9 hd hx hK h65 hs
    have hlt : i < n := by omega
    have es : stAt m1 53 = (yearN i (aS A) x0).1 := congrArg (fun q : aStr × Nat => q.1) hs
    have ex : x = (yearN i (aS A) x0).2 := congrArg (fun q : aStr × Nat => q.2) hs
    have hWi : WFs Mx (stAt m1 53) := by rw [es]; exact wf_year hW i
    have hXl := yX_lt x
    refine g_iload (pc' := 51) rfl rfl rfl ?_
    refine g_iload_n (pc' := 52) rfl rfl rfl ?_
    refine g_icmp_ge (pc' := 55) (t := 178) rfl rfl rfl (fun c_52 => absurd c_52 (nI_ge hlt (by omega))) (fun c_52 => ?_)
    refine g_ldc2_w (pc' := 58) (v := 75) rfl rfl (by decide) ?_
    refine g_iload (pc' := 60) rfl rfl rfl ?_
    refine g_i2l (pc' := 61) rfl rfl ?_
    refine g_lmul (pc' := 62) rfl rfl ?_
    refine g_ldc2_w (pc' := 65) (v := 74) rfl rfl (by decide) ?_
    refine g_ladd (pc' := 66) rfl rfl ?_
    refine g_ldc2_w (pc' := 69) (v := 65537) rfl rfl (by decide) ?_
    refine g_lrem (pc' := 70) rfl rfl (by decide) ?_
    refine g_l2i (pc' := 71) rfl rfl ?_
    refine g_vi (y := nI (yX x)) (yX_l hx) ?_
    refine g_istore (pc' := 73) rfl rfl rfl ?_
    refine g_iload (pc' := 75) rfl rfl rfl ?_
    refine g_bipush (pc' := 77) (v := 10) rfl rfl (by decide) ?_
    refine g_idiv (pc' := 78) rfl rfl (by decide) ?_
    refine g_vi (y := nI (yX x / 10)) (i_div (by omega) (by decide) (by decide)) ?_
    refine g_bipush (pc' := 80) (v := 8) rfl rfl (by decide) ?_
    refine g_irem (pc' := 81) rfl rfl (by decide) ?_
    refine g_vi (y := nI (yX x / 10 % 8)) (i_rem (by omega) (by decide) (by decide)) ?_
    refine g_istore (pc' := 83) rfl rfl rfl ?_
    refine g_iload (pc' := 85) rfl rfl rfl ?_
    refine g_bipush (pc' := 87) (v := 80) rfl rfl (by decide) ?_
    refine g_idiv (pc' := 88) rfl rfl (by decide) ?_
    refine g_vi (y := nI (yX x / 80)) (i_div (by omega) (by decide) (by decide)) ?_
    refine g_istore (pc' := 90) rfl rfl rfl ?_
    refine g_iload (pc' := 92) rfl rfl rfl ?_
    refine g_iconst (pc' := 93) (v := 4) rfl rfl (by decide) ?_
    refine g_icmp_ge (pc' := 96) (t := 100) rfl rfl rfl (fun c_93 => ?_) (fun c_93 => ?_)
    · refine g_iload (pc' := 102) rfl rfl rfl ?_
      refine g_iconst (pc' := 103) (v := 4) rfl rfl (by decide) ?_
      refine g_icmp_ne (pc' := 106) (t := 110) rfl rfl rfl (fun c_103 => ?_) (fun c_103 => ?_)
      · refine g_iload (pc' := 112) rfl rfl rfl ?_
        refine g_iconst (pc' := 113) (v := 5) rfl rfl (by decide) ?_
        refine g_icmp_ne (pc' := 116) (t := 120) rfl rfl rfl (fun c_113 => ?_) (fun c_113 => ?_)
        · have hkd : kindN (yX x / 10 % 8) = 3 := by
            unfold kindN
            rw [if_neg (fun z => nI_ge (b := 4) (by omega) (by decide) c_93), if_neg (fun z => c_103 (by rw [z]; rfl)), if_neg (fun z => c_113 (by rw [z]; rfl))]
          have hyb : yB (yX x) = yX x / 80 % 10 := by unfold yB; rw [hkd, if_neg (by decide)]
          refine g_iconst (pc' := 121) (v := 3) rfl rfl (by decide) ?_
          refine g_istore (pc' := 123) rfl rfl rfl ?_
          refine g_iload (pc' := 125) rfl rfl rfl ?_
          refine g_iconst (pc' := 126) (v := 5) rfl rfl (by decide) ?_
          refine g_icmp_ne (pc' := 129) (t := 136) rfl rfl rfl (fun c_126 => ?_) (fun c_126 => absurd c_126 c_113)
          refine g_iload (pc' := 138) rfl rfl rfl ?_
          refine g_bipush (pc' := 140) (v := 10) rfl rfl (by decide) ?_
          refine g_irem (pc' := 141) rfl rfl (by decide) ?_
          refine g_vi (y := nI (yX x / 80 % 10)) (i_rem (by omega) (by decide) (by decide)) ?_
          refine g_istore (pc' := 143) rfl rfl rfl ?_
          refine g_aload_n (pc' := 144) rfl rfl rfl ?_
          refine g_iload (pc' := 146) rfl rfl rfl ?_
          refine g_iload (pc' := 148) rfl rfl rfl ?_
          refine g_bipush (pc' := 150) (v := 10) rfl rfl (by decide) ?_
          refine g_irem (pc' := 151) rfl rfl (by decide) ?_
          refine g_vi (y := nI (yX x % 10)) (i_rem (by omega) (by decide) (by decide)) ?_
          refine g_iload (pc' := 153) rfl rfl rfl ?_
          refine g_calli (pc' := 156) rfl rfl rfl rfl (Or.inr rfl) ?_
          refine d_whyNot2 (kd := 3) (a := yX x % 10) (b := yX x / 80 % 10) (by decide) (Nat.mod_lt _ (by decide)) (fun _ => (Nat.mod_lt _ (by decide))) (hWi.hard (Nat.mod_lt _ (by decide))) hWi.day (fun w0 => ?_) (fun wv w1 w2 w3 => ?_)
          · refine g_if_ne (pc' := 159) (t := 172) rfl rfl rfl (fun c => absurd c (by decide)) (fun _ => ?_)
            refine g_aload_n (pc' := 160) rfl rfl rfl ?_
            refine g_iload (pc' := 162) rfl rfl rfl ?_
            refine g_iload (pc' := 164) rfl rfl rfl ?_
            refine g_bipush (pc' := 166) (v := 10) rfl rfl (by decide) ?_
            refine g_irem (pc' := 167) rfl rfl (by decide) ?_
            refine g_vi (y := nI (yX x % 10)) (i_rem (by omega) (by decide) (by decide)) ?_
            refine g_iload (pc' := 169) rfl rfl rfl ?_
            refine g_callv (pc' := 172) rfl rfl rfl rfl (Or.inr rfl) ?_
            refine d_happen (kd := 3) (a := yX x % 10) (b := yX x / 80 % 10) (by decide) (Nat.mod_lt _ (by decide)) (fun _ => (Nat.mod_lt _ (by decide))) (fun z => (wf_act hWi (by decide) (Nat.mod_lt _ (by decide)) (fun _ => (Nat.mod_lt _ (by decide))) w0).2 z) (fun k hk => hWi.hard hk) (fun m2 f2 s2 b2 => ?_)
            refine g_iinc (pc' := 175) (v := nI (i + 1)) rfl rfl rfl (nI_1 i) rfl ?_
            refine g_goto (pc' := 49) rfl rfl ?_
            exact ih (i + 1) m2 (yX x) _ _ _ _ (by omega) hXl (hK.tr (hap_kp f2 b2)) ((f2.i (by omega)).trans h65) (by rw [yearN, fN, show fN (fun _ => yStep) i (aS A, x0) = yearN i (aS A) x0 from rfl, ← hs]; unfold yStep; dsimp only; rw [hkd, hyb, if_pos w0, s2])
          · refine g_if_ne (pc' := 159) (t := 172) rfl rfl rfl (fun c_156 => ?_) (fun c_156 => absurd ((nIk0 (by omega)).mp c_156) (by omega))
            refine g_iinc (pc' := 175) (v := nI (i + 1)) rfl rfl rfl (nI_1 i) rfl ?_
            refine g_goto (pc' := 49) rfl rfl ?_
            exact ih (i + 1) m1 (yX x) _ _ _ _ (by omega) hXl (hK) (h65) (by rw [yearN, fN, show fN (fun _ => yStep) i (aS A, x0) = yearN i (aS A) x0 from rfl, ← hs]; unfold yStep; dsimp only; rw [hkd, hyb, if_neg (by rw [w3]; exact fun z => by have := (nIk0 (by omega)).mp z; omega)])
        · have hj : yX x / 10 % 8 = 5 := (nI_eq (b := 5) (by omega) (by decide)).mp c_113
          have hkd : kindN (yX x / 10 % 8) = 2 := by rw [hj]; rfl
          have hyb : yB (yX x) = yX x / 80 % 4 := by unfold yB; rw [hkd, if_pos rfl]
          refine g_iconst (pc' := 117) (v := 2) rfl rfl (by decide) ?_
          refine g_goto (pc' := 121) rfl rfl ?_
          refine g_istore (pc' := 123) rfl rfl rfl ?_
          refine g_iload (pc' := 125) rfl rfl rfl ?_
          refine g_iconst (pc' := 126) (v := 5) rfl rfl (by decide) ?_
          refine g_icmp_ne (pc' := 129) (t := 136) rfl rfl rfl (fun c_126 => absurd c_113 c_126) (fun c_126 => ?_)
          refine g_iload (pc' := 131) rfl rfl rfl ?_
          refine g_iconst (pc' := 132) (v := 4) rfl rfl (by decide) ?_
          refine g_irem (pc' := 133) rfl rfl (by decide) ?_
          refine g_vi (y := nI (yX x / 80 % 4)) (i_rem (by omega) (by decide) (by decide)) ?_
          refine g_goto (pc' := 141) rfl rfl ?_
          refine g_istore (pc' := 143) rfl rfl rfl ?_
          refine g_aload_n (pc' := 144) rfl rfl rfl ?_
          refine g_iload (pc' := 146) rfl rfl rfl ?_
          refine g_iload (pc' := 148) rfl rfl rfl ?_
          refine g_bipush (pc' := 150) (v := 10) rfl rfl (by decide) ?_
          refine g_irem (pc' := 151) rfl rfl (by decide) ?_
          refine g_vi (y := nI (yX x % 10)) (i_rem (by omega) (by decide) (by decide)) ?_
          refine g_iload (pc' := 153) rfl rfl rfl ?_
          refine g_calli (pc' := 156) rfl rfl rfl rfl (Or.inr rfl) ?_
          refine d_whyNot2 (kd := 2) (a := yX x % 10) (b := yX x / 80 % 4) (by decide) (Nat.mod_lt _ (by decide)) (fun _ => by omega) (hWi.hard (Nat.mod_lt _ (by decide))) hWi.day (fun w0 => ?_) (fun wv w1 w2 w3 => ?_)
          · refine g_if_ne (pc' := 159) (t := 172) rfl rfl rfl (fun c => absurd c (by decide)) (fun _ => ?_)
            refine g_aload_n (pc' := 160) rfl rfl rfl ?_
            refine g_iload (pc' := 162) rfl rfl rfl ?_
            refine g_iload (pc' := 164) rfl rfl rfl ?_
            refine g_bipush (pc' := 166) (v := 10) rfl rfl (by decide) ?_
            refine g_irem (pc' := 167) rfl rfl (by decide) ?_
            refine g_vi (y := nI (yX x % 10)) (i_rem (by omega) (by decide) (by decide)) ?_
            refine g_iload (pc' := 169) rfl rfl rfl ?_
            refine g_callv (pc' := 172) rfl rfl rfl rfl (Or.inr rfl) ?_
            refine d_happen (kd := 2) (a := yX x % 10) (b := yX x / 80 % 4) (by decide) (Nat.mod_lt _ (by decide)) (fun _ => by omega) (fun z => (wf_act hWi (by decide) (Nat.mod_lt _ (by decide)) (fun _ => by omega) w0).2 z) (fun k hk => hWi.hard hk) (fun m2 f2 s2 b2 => ?_)
            refine g_iinc (pc' := 175) (v := nI (i + 1)) rfl rfl rfl (nI_1 i) rfl ?_
            refine g_goto (pc' := 49) rfl rfl ?_
            exact ih (i + 1) m2 (yX x) _ _ _ _ (by omega) hXl (hK.tr (hap_kp f2 b2)) ((f2.i (by omega)).trans h65) (by rw [yearN, fN, show fN (fun _ => yStep) i (aS A, x0) = yearN i (aS A) x0 from rfl, ← hs]; unfold yStep; dsimp only; rw [hkd, hyb, if_pos w0, s2])
          · refine g_if_ne (pc' := 159) (t := 172) rfl rfl rfl (fun c_156 => ?_) (fun c_156 => absurd ((nIk0 (by omega)).mp c_156) (by omega))
            refine g_iinc (pc' := 175) (v := nI (i + 1)) rfl rfl rfl (nI_1 i) rfl ?_
            refine g_goto (pc' := 49) rfl rfl ?_
            exact ih (i + 1) m1 (yX x) _ _ _ _ (by omega) hXl (hK) (h65) (by rw [yearN, fN, show fN (fun _ => yStep) i (aS A, x0) = yearN i (aS A) x0 from rfl, ← hs]; unfold yStep; dsimp only; rw [hkd, hyb, if_neg (by rw [w3]; exact fun z => by have := (nIk0 (by omega)).mp z; omega)])
      · have hj : yX x / 10 % 8 = 4 := (nI_eq (b := 4) (by omega) (by decide)).mp c_103
        have hkd : kindN (yX x / 10 % 8) = 1 := by rw [hj]; rfl
        have hyb : yB (yX x) = yX x / 80 % 10 := by unfold yB; rw [hkd, if_neg (by decide)]
        refine g_iconst (pc' := 107) (v := 1) rfl rfl (by decide) ?_
        refine g_goto (pc' := 121) rfl rfl ?_
        refine g_istore (pc' := 123) rfl rfl rfl ?_
        refine g_iload (pc' := 125) rfl rfl rfl ?_
        refine g_iconst (pc' := 126) (v := 5) rfl rfl (by decide) ?_
        refine g_icmp_ne (pc' := 129) (t := 136) rfl rfl rfl (fun c_126 => ?_) (fun c_126 => absurd ((nI_eq (b := 5) (by omega) (by decide)).mp c_126) (by omega))
        refine g_iload (pc' := 138) rfl rfl rfl ?_
        refine g_bipush (pc' := 140) (v := 10) rfl rfl (by decide) ?_
        refine g_irem (pc' := 141) rfl rfl (by decide) ?_
        refine g_vi (y := nI (yX x / 80 % 10)) (i_rem (by omega) (by decide) (by decide)) ?_
        refine g_istore (pc' := 143) rfl rfl rfl ?_
        refine g_aload_n (pc' := 144) rfl rfl rfl ?_
        refine g_iload (pc' := 146) rfl rfl rfl ?_
        refine g_iload (pc' := 148) rfl rfl rfl ?_
        refine g_bipush (pc' := 150) (v := 10) rfl rfl (by decide) ?_
        refine g_irem (pc' := 151) rfl rfl (by decide) ?_
        refine g_vi (y := nI (yX x % 10)) (i_rem (by omega) (by decide) (by decide)) ?_
        refine g_iload (pc' := 153) rfl rfl rfl ?_
        refine g_calli (pc' := 156) rfl rfl rfl rfl (Or.inr rfl) ?_
        refine d_whyNot2 (kd := 1) (a := yX x % 10) (b := yX x / 80 % 10) (by decide) (Nat.mod_lt _ (by decide)) (fun _ => (Nat.mod_lt _ (by decide))) (hWi.hard (Nat.mod_lt _ (by decide))) hWi.day (fun w0 => ?_) (fun wv w1 w2 w3 => ?_)
        · refine g_if_ne (pc' := 159) (t := 172) rfl rfl rfl (fun c => absurd c (by decide)) (fun _ => ?_)
          refine g_aload_n (pc' := 160) rfl rfl rfl ?_
          refine g_iload (pc' := 162) rfl rfl rfl ?_
          refine g_iload (pc' := 164) rfl rfl rfl ?_
          refine g_bipush (pc' := 166) (v := 10) rfl rfl (by decide) ?_
          refine g_irem (pc' := 167) rfl rfl (by decide) ?_
          refine g_vi (y := nI (yX x % 10)) (i_rem (by omega) (by decide) (by decide)) ?_
          refine g_iload (pc' := 169) rfl rfl rfl ?_
          refine g_callv (pc' := 172) rfl rfl rfl rfl (Or.inr rfl) ?_
          refine d_happen (kd := 1) (a := yX x % 10) (b := yX x / 80 % 10) (by decide) (Nat.mod_lt _ (by decide)) (fun _ => (Nat.mod_lt _ (by decide))) (fun z => (wf_act hWi (by decide) (Nat.mod_lt _ (by decide)) (fun _ => (Nat.mod_lt _ (by decide))) w0).2 z) (fun k hk => hWi.hard hk) (fun m2 f2 s2 b2 => ?_)
          refine g_iinc (pc' := 175) (v := nI (i + 1)) rfl rfl rfl (nI_1 i) rfl ?_
          refine g_goto (pc' := 49) rfl rfl ?_
          exact ih (i + 1) m2 (yX x) _ _ _ _ (by omega) hXl (hK.tr (hap_kp f2 b2)) ((f2.i (by omega)).trans h65) (by rw [yearN, fN, show fN (fun _ => yStep) i (aS A, x0) = yearN i (aS A) x0 from rfl, ← hs]; unfold yStep; dsimp only; rw [hkd, hyb, if_pos w0, s2])
        · refine g_if_ne (pc' := 159) (t := 172) rfl rfl rfl (fun c_156 => ?_) (fun c_156 => absurd ((nIk0 (by omega)).mp c_156) (by omega))
          refine g_iinc (pc' := 175) (v := nI (i + 1)) rfl rfl rfl (nI_1 i) rfl ?_
          refine g_goto (pc' := 49) rfl rfl ?_
          exact ih (i + 1) m1 (yX x) _ _ _ _ (by omega) hXl (hK) (h65) (by rw [yearN, fN, show fN (fun _ => yStep) i (aS A, x0) = yearN i (aS A) x0 from rfl, ← hs]; unfold yStep; dsimp only; rw [hkd, hyb, if_neg (by rw [w3]; exact fun z => by have := (nIk0 (by omega)).mp z; omega)])
    · have hj : yX x / 10 % 8 ≤ 3 := by
        rcases Nat.lt_or_ge 3 (yX x / 10 % 8) with z | z
        · exact absurd (nI_le (a := 4) z (by omega)) c_93
        · exact z
      have hkd : kindN (yX x / 10 % 8) = 0 := by unfold kindN; rw [if_pos hj]
      have hyb : yB (yX x) = yX x / 80 % 10 := by unfold yB; rw [hkd, if_neg (by decide)]
      refine g_iconst (pc' := 97) (v := 0) rfl rfl (by decide) ?_
      refine g_goto (pc' := 121) rfl rfl ?_
      refine g_istore (pc' := 123) rfl rfl rfl ?_
      refine g_iload (pc' := 125) rfl rfl rfl ?_
      refine g_iconst (pc' := 126) (v := 5) rfl rfl (by decide) ?_
      refine g_icmp_ne (pc' := 129) (t := 136) rfl rfl rfl (fun c_126 => ?_) (fun c_126 => absurd ((nI_eq (b := 5) (by omega) (by decide)).mp c_126) (by omega))
      refine g_iload (pc' := 138) rfl rfl rfl ?_
      refine g_bipush (pc' := 140) (v := 10) rfl rfl (by decide) ?_
      refine g_irem (pc' := 141) rfl rfl (by decide) ?_
      refine g_vi (y := nI (yX x / 80 % 10)) (i_rem (by omega) (by decide) (by decide)) ?_
      refine g_istore (pc' := 143) rfl rfl rfl ?_
      refine g_aload_n (pc' := 144) rfl rfl rfl ?_
      refine g_iload (pc' := 146) rfl rfl rfl ?_
      refine g_iload (pc' := 148) rfl rfl rfl ?_
      refine g_bipush (pc' := 150) (v := 10) rfl rfl (by decide) ?_
      refine g_irem (pc' := 151) rfl rfl (by decide) ?_
      refine g_vi (y := nI (yX x % 10)) (i_rem (by omega) (by decide) (by decide)) ?_
      refine g_iload (pc' := 153) rfl rfl rfl ?_
      refine g_calli (pc' := 156) rfl rfl rfl rfl (Or.inr rfl) ?_
      refine d_whyNot2 (kd := 0) (a := yX x % 10) (b := yX x / 80 % 10) (by decide) (Nat.mod_lt _ (by decide)) (fun _ => (Nat.mod_lt _ (by decide))) (hWi.hard (Nat.mod_lt _ (by decide))) hWi.day (fun w0 => ?_) (fun wv w1 w2 w3 => ?_)
      · refine g_if_ne (pc' := 159) (t := 172) rfl rfl rfl (fun c => absurd c (by decide)) (fun _ => ?_)
        refine g_aload_n (pc' := 160) rfl rfl rfl ?_
        refine g_iload (pc' := 162) rfl rfl rfl ?_
        refine g_iload (pc' := 164) rfl rfl rfl ?_
        refine g_bipush (pc' := 166) (v := 10) rfl rfl (by decide) ?_
        refine g_irem (pc' := 167) rfl rfl (by decide) ?_
        refine g_vi (y := nI (yX x % 10)) (i_rem (by omega) (by decide) (by decide)) ?_
        refine g_iload (pc' := 169) rfl rfl rfl ?_
        refine g_callv (pc' := 172) rfl rfl rfl rfl (Or.inr rfl) ?_
        refine d_happen (kd := 0) (a := yX x % 10) (b := yX x / 80 % 10) (by decide) (Nat.mod_lt _ (by decide)) (fun _ => (Nat.mod_lt _ (by decide))) (fun z => (wf_act hWi (by decide) (Nat.mod_lt _ (by decide)) (fun _ => (Nat.mod_lt _ (by decide))) w0).2 z) (fun k hk => hWi.hard hk) (fun m2 f2 s2 b2 => ?_)
        refine g_iinc (pc' := 175) (v := nI (i + 1)) rfl rfl rfl (nI_1 i) rfl ?_
        refine g_goto (pc' := 49) rfl rfl ?_
        exact ih (i + 1) m2 (yX x) _ _ _ _ (by omega) hXl (hK.tr (hap_kp f2 b2)) ((f2.i (by omega)).trans h65) (by rw [yearN, fN, show fN (fun _ => yStep) i (aS A, x0) = yearN i (aS A) x0 from rfl, ← hs]; unfold yStep; dsimp only; rw [hkd, hyb, if_pos w0, s2])
      · refine g_if_ne (pc' := 159) (t := 172) rfl rfl rfl (fun c_156 => ?_) (fun c_156 => absurd ((nIk0 (by omega)).mp c_156) (by omega))
        refine g_iinc (pc' := 175) (v := nI (i + 1)) rfl rfl rfl (nI_1 i) rfl ?_
        refine g_goto (pc' := 49) rfl rfl ?_
        exact ih (i + 1) m1 (yX x) _ _ _ _ (by omega) hXl (hK) (h65) (by rw [yearN, fN, show fN (fun _ => yStep) i (aS A, x0) = yearN i (aS A) x0 from rfl, ← hs]; unfold yStep; dsimp only; rw [hkd, hyb, if_neg (by rw [w3]; exact fun z => by have := (nIk0 (by omega)).mp z; omega)])
theorem d_year {x n w : Int32} (hM : MI m A) {Mx : Nat} (hW : WFs Mx (aS A)) (hMx : Mx < 2 ^ 31) (h : ∀ m', Fr 53 73 m m' → MI m' (r_year A x n w).2 → K (r_year A x n w).1 m') : gCi X 171 [.ref 53, .int x, .int n, .int w] m K := by
  refine g_inI rfl ?_
  refine g_iload_n (pc' := 1) rfl rfl rfl ?_
  refine g_i2l (pc' := 2) rfl rfl ?_
  refine g_lconst (pc' := 3) (v := 0) rfl rfl (by decide) ?_
  refine g_ldc2_w (pc' := 6) (v := 9999) rfl rfl (by decide) ?_
  refine g_calli (pc' := 9) rfl rfl rfl rfl (Or.inl rfl) ?_
  refine d_in (lo := 0) (hi := 9999) (by decide) (by decide) (fun u1 u2 => ?_) (fun u0 => ?_)
  · refine g_if_eq (pc' := 12) (t := 36) rfl rfl rfl (fun c => absurd c (by decide)) (fun _ => ?_)
    refine g_iload_n (pc' := 13) rfl rfl rfl ?_
    refine g_i2l (pc' := 14) rfl rfl ?_
    refine g_lconst (pc' := 15) (v := 1) rfl rfl (by decide) ?_
    refine g_ldc2_w (pc' := 18) (v := 99) rfl rfl (by decide) ?_
    refine g_calli (pc' := 21) rfl rfl rfl rfl (Or.inl rfl) ?_
    refine d_in (lo := 1) (hi := 99) (by decide) (by decide) (fun v1 v2 => ?_) (fun v0 => ?_)
    · refine g_if_eq (pc' := 24) (t := 36) rfl rfl rfl (fun c => absurd c (by decide)) (fun _ => ?_)
      refine g_iload_n (pc' := 25) rfl rfl rfl ?_
      refine g_i2l (pc' := 26) rfl rfl ?_
      refine g_lconst (pc' := 27) (v := 0) rfl rfl (by decide) ?_
      refine g_ldc2_w (pc' := 30) (v := 2) rfl rfl (by decide) ?_
      refine g_calli (pc' := 33) rfl rfl rfl rfl (Or.inl rfl) ?_
      refine d_in (lo := 0) (hi := 2) (by decide) (by decide) (fun w1 w2 => ?_) (fun w0 => ?_)
      · refine g_if_ne (pc' := 36) (t := 39) rfl rfl rfl (fun _ => ?_) (fun c => absurd c (by decide))
        have hno : ¬ (¬ (0 ≤ x ∧ x ≤ 9999) ∨ ¬ (1 ≤ n ∧ n ≤ 99) ∨ ¬ (0 ≤ w ∧ w ≤ 2)) := fun z => z.elim (nn ⟨u1, u2⟩) (fun z => z.elim (nn ⟨v1, v2⟩) (nn ⟨w1, w2⟩))
        obtain ⟨kx, hkx, ex⟩ := i_in (n := 9999) (by decide) u1 u2
        obtain ⟨kn, hkn, en⟩ := i_rng (a := 1) (b := 99) rfl rfl (by decide) (by decide) v1 v2
        have er : r_year A x n w = (if w = 0 then brokenB (yearN (1 + kn) (aS A) kx).1 else if w = 1 then mostV (yearN (1 + kn) (aS A) kx).1 else scoresB (yearN (1 + kn) (aS A) kx).1 0, A) := by unfold r_year; rw [if_neg hno, en, ex, ix_nI (by omega), show ix (nI kx) = kx from nI_clamp (by omega)]
        refine g_aload_n (pc' := 40) rfl rfl rfl ?_
        refine g_callv (pc' := 43) rfl rfl rfl rfl (Or.inr rfl) ?_
        refine d_keepNow (fun m1 f1 k1 => ?_)
        rw [hM.1] at k1
        subst ex
        subst en
        refine g_iload_n (pc' := 44) rfl rfl rfl ?_
        refine g_istore (pc' := 46) rfl rfl rfl ?_
        refine g_iconst (pc' := 47) (v := 0) rfl rfl (by decide) ?_
        refine g_istore (pc' := 49) rfl rfl rfl ?_
        refine d_yearLoop (A := A) (m := m1) (m0 := m) (n := 1 + kn) (x0 := kx) (by omega) hW (fun m3 x3 v6 v7 v8 v9 k3 h65 s3 => ?_) (1 + kn) 0 m1 kx _ _ _ _ (by omega) (by omega) (KP.of_hd f1) rfl (by rw [f1.st (p := 53) (by omega), hM.1]; rfl)
        have d3 : hdAt m3 = aS A := (hd_eq h65).trans k1
        have hW3 : WFs Mx (yearN (1 + kn) (aS A) kx).1 := wf_year hW _
        have eb := best_eq hW3 hMx
        refine g_aload_n (pc' := 179) rfl rfl rfl ?_
        refine g_calli (pc' := 182) rfl rfl rfl rfl (Or.inr rfl) ?_
        refine d_best2 (fun e => ?_) (fun k hk e => ?_)
        · refine g_istore (pc' := 184) rfl rfl rfl ?_
          refine g_aload_n (pc' := 185) rfl rfl rfl ?_
          refine g_iload_n (pc' := 186) rfl rfl rfl ?_
          refine g_if_ne (pc' := 189) (t := 196) rfl rfl rfl (fun c_186 => ?_) (fun c_186 => ?_)
          · refine g_iload_n (pc' := 197) rfl rfl rfl ?_
            refine g_iconst (pc' := 198) (v := 1) rfl rfl (by decide) ?_
            refine g_icmp_ne (pc' := 201) (t := 220) rfl rfl rfl (fun c_198 => ?_) (fun c_198 => ?_)
            · refine g_aload_n (pc' := 221) rfl rfl rfl ?_
              refine g_iconst (pc' := 222) (v := 0) rfl rfl (by decide) ?_
              refine g_calli (pc' := 225) rfl rfl rfl rfl (Or.inr rfl) ?_
              refine d_scoresOf ?_
              refine g_calli (pc' := 228) rfl rfl rfl rfl (Or.inr rfl) ?_
              refine d_backA k3 d3 hM (fun m4 f4 i4 s4 => ?_)
              exact g_ireturn rfl rfl (g_eq (mf h er f4 i4) (by rw [s3, if_neg c_186, if_neg c_198]) rfl)
            · refine g_iload (pc' := 203) rfl rfl rfl ?_
              refine g_if_ge (pc' := 206) (t := 210) rfl rfl rfl (fun c => absurd c (by decide)) (fun _ => ?_)
              refine g_iconst (pc' := 207) (v := 0) rfl rfl (by decide) ?_
              refine g_goto (pc' := 225) rfl rfl ?_
              refine g_calli (pc' := 228) rfl rfl rfl rfl (Or.inr rfl) ?_
              refine d_backA k3 d3 hM (fun m4 f4 i4 s4 => ?_)
              exact g_ireturn rfl rfl (g_eq (mf h er f4 i4) (by rw [if_neg c_186, if_pos c_198, mostV, if_pos (by rw [← eb, ← s3]; exact e)]) rfl)
          · refine g_aload_n (pc' := 190) rfl rfl rfl ?_
            refine g_calli (pc' := 193) rfl rfl rfl rfl (Or.inr rfl) ?_
            refine d_broken ?_
            refine g_goto (pc' := 225) rfl rfl ?_
            refine g_calli (pc' := 228) rfl rfl rfl rfl (Or.inr rfl) ?_
            refine d_backA k3 d3 hM (fun m4 f4 i4 s4 => ?_)
            exact g_ireturn rfl rfl (g_eq (mf h er f4 i4) (by rw [s3, if_pos c_186]) rfl)
        · refine g_istore (pc' := 184) rfl rfl rfl ?_
          refine g_aload_n (pc' := 185) rfl rfl rfl ?_
          refine g_iload_n (pc' := 186) rfl rfl rfl ?_
          refine g_if_ne (pc' := 189) (t := 196) rfl rfl rfl (fun c_186 => ?_) (fun c_186 => ?_)
          · refine g_iload_n (pc' := 197) rfl rfl rfl ?_
            refine g_iconst (pc' := 198) (v := 1) rfl rfl (by decide) ?_
            refine g_icmp_ne (pc' := 201) (t := 220) rfl rfl rfl (fun c_198 => ?_) (fun c_198 => ?_)
            · refine g_aload_n (pc' := 221) rfl rfl rfl ?_
              refine g_iconst (pc' := 222) (v := 0) rfl rfl (by decide) ?_
              refine g_calli (pc' := 225) rfl rfl rfl rfl (Or.inr rfl) ?_
              refine d_scoresOf ?_
              refine g_calli (pc' := 228) rfl rfl rfl rfl (Or.inr rfl) ?_
              refine d_backA k3 d3 hM (fun m4 f4 i4 s4 => ?_)
              exact g_ireturn rfl rfl (g_eq (mf h er f4 i4) (by rw [s3, if_neg c_186, if_neg c_198]) rfl)
            · refine g_iload (pc' := 203) rfl rfl rfl ?_
              refine g_if_ge (pc' := 206) (t := 210) rfl rfl rfl (fun c_203 => ?_) (fun c_203 => absurd (nI_pos' (by omega)) c_203)
              refine g_aload_n (pc' := 211) rfl rfl rfl ?_
              refine g_getr (pc' := 214) rfl rfl (f_11_2) ?_
              refine g_iload (pc' := 216) rfl rfl rfl ?_
              refine g_iald (pc' := 217) rfl rfl (a_56) hk rfl ?_
              refine g_vi (y := sS (stAt m3 53) k) (r_S hk) ?_
              refine g_goto (pc' := 225) rfl rfl ?_
              refine g_calli (pc' := 228) rfl rfl rfl rfl (Or.inr rfl) ?_
              refine d_backA k3 d3 hM (fun m4 f4 i4 s4 => ?_)
              exact g_ireturn rfl rfl (g_eq (mf h er f4 i4) (by rw [if_neg c_186, if_pos c_198, mostV, if_neg (by rw [← eb, ← s3, e]; exact nI_ne6 (by omega)), ← eb, ← s3, e, show (nI k).toNatClampNeg = k from ix_nI (by omega)]) rfl)
          · refine g_aload_n (pc' := 190) rfl rfl rfl ?_
            refine g_calli (pc' := 193) rfl rfl rfl rfl (Or.inr rfl) ?_
            refine d_broken ?_
            refine g_goto (pc' := 225) rfl rfl ?_
            refine g_calli (pc' := 228) rfl rfl rfl rfl (Or.inr rfl) ?_
            refine d_backA k3 d3 hM (fun m4 f4 i4 s4 => ?_)
            exact g_ireturn rfl rfl (g_eq (mf h er f4 i4) (by rw [s3, if_pos c_186]) rfl)
      · refine g_if_ne (pc' := 36) (t := 39) rfl rfl rfl (fun c => absurd c (by decide)) (fun _ => ?_)
        refine g_bipush (pc' := 38) (v := -2) rfl rfl (by decide) ?_
        exact g_ireturn rfl rfl (mf h (by unfold r_year; rw [if_pos (Or.inr (Or.inr w0))]) Fr.rf hM)
    · refine g_if_eq (pc' := 24) (t := 36) rfl rfl rfl (fun _ => ?_) (fun c => absurd c (by decide))
      refine g_bipush (pc' := 38) (v := -2) rfl rfl (by decide) ?_
      exact g_ireturn rfl rfl (mf h (by unfold r_year; rw [if_pos (Or.inr (Or.inl v0))]) Fr.rf hM)
  · refine g_if_eq (pc' := 12) (t := 36) rfl rfl rfl (fun _ => ?_) (fun c => absurd c (by decide))
    refine g_bipush (pc' := 38) (v := -2) rfl rfl (by decide) ?_
    exact g_ireturn rfl rfl (mf h (by unfold r_year; rw [if_pos (Or.inl u0)]) Fr.rf hM)
end M7
