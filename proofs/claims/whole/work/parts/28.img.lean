/-! images, sights, years, what is told -/
section C9
variable {X : aX} {m : aMem} {A : aA} {K : Int32 → aMem → Prop}
def mixF (f g : Nat → Int32) (i : Nat) : Nat → Int32 := fun k => if k < i then f k else g k
theorem mixF_s (f g : Nat → Int32) (i : Nat) : mixF f g (i + 1) = upd (mixF f g i) i (f i) := mix_upd f g i
theorem mixF_0 (f g : Nat → Int32) : mixF f g 0 = g := by funext k; simp [mixF]
theorem mixF_8 (f g : Nat → Int32) : mixF (cut 8 f) (cut 8 g) 8 = cut 8 f := by
  funext k
  unfold mixF
  by_cases h : k < 8
  · simp [h]
  · simp [h, cut]
theorem c_sgCopy {p q : Nat} {K : aMem → Prop} (hp : isT p) (hq : isT q) (hpq : p + 2 < q ∨ q + 2 < p) (h : ∀ m', Fr p (p + 3) m m' → sgAt m' p = sgAt m q → K m') : gCv X 46 [.ref p, .ref q] m K := by
  refine g_inV rfl ?_
  have loop : ∀ (d i : Nat) (m1 : aMem), i + d = 8 → Fr p (p + 3) m m1 → cut 8 (m1.1 (p + 1)) = mixF (cut 8 (m.1 (q + 1))) (cut 8 (m.1 (p + 1))) i → cut 8 (m1.1 (p + 2)) = mixF (cut 8 (m.1 (q + 2))) (cut 8 (m.1 (p + 2))) i → gG X 46 2 [.ref p, .ref q, .int (nI i)] [] m1 (fun r m' => r = none ∧ K m') := by
    intro d
    induction d with
    | zero =>
      intro i m1 hd hF g1 g2
      have hi : i = 8 := by omega
      subst hi
      refine g_iload_n (pc' := 3) rfl rfl rfl ?_
      refine g_bipush (pc' := 5) (v := 8) rfl rfl (by decide) ?_
      refine g_icmp_ge (pc' := 8) (t := 38) rfl rfl rfl (fun c_5 => ?_) (fun c_5 => absurd (by decide) c_5)
      refine g_aload_n (pc' := 39) rfl rfl rfl ?_
      refine g_aload_n (pc' := 40) rfl rfl rfl ?_
      refine g_geti (pc' := 43) rfl rfl (i_7_2 hq) ?_
      refine g_puti (pc' := 46) rfl rfl (i_7_2 hp) ?_
      exact g_return rfl rfl (h _ (hF.s (by omega) (by omega)) (by
            unfold sgAt
            show (am_wi m1.1 p 2 (m1.1 q 2) p 2, cut 8 (am_wi m1.1 p 2 (m1.1 q 2) (p + 1)), cut 8 (am_wi m1.1 p 2 (m1.1 q 2) (p + 2))) = _
            rw [am_wi_s, am_wi_n (by omega), am_wi_n (by omega), g1, g2, mixF_8, mixF_8, hF.i (q := q) (by omega)]
            simp [upd]))
    | succ d ih =>
      intro i m1 hd hF g1 g2
      have hlt : i < 8 := by omega
      have e1 : m1.1 (q + 1) i = cut 8 (m.1 (q + 1)) i := by rw [hF.i (by omega)]; exact (cut_at hlt).symm
      have e2 : (am_wi m1.1 (p + 1) i (cut 8 (m.1 (q + 1)) i)) (q + 2) i = cut 8 (m.1 (q + 2)) i := by rw [am_wi_n (by omega), hF.i (by omega)]; exact (cut_at hlt).symm
      refine g_iload_n (pc' := 3) rfl rfl rfl ?_
      refine g_bipush (pc' := 5) (v := 8) rfl rfl (by decide) ?_
      refine g_icmp_ge (pc' := 8) (t := 38) rfl rfl rfl (fun c_5 => absurd c_5 (nI_ge (b := 8) hlt (by decide))) (fun c_5 => ?_)
      refine g_aload_n (pc' := 9) rfl rfl rfl ?_
      refine g_getr (pc' := 12) rfl rfl (f_7_0 hp) ?_
      refine g_iload_n (pc' := 13) rfl rfl rfl ?_
      refine g_aload_n (pc' := 14) rfl rfl rfl ?_
      refine g_getr (pc' := 17) rfl rfl (f_7_0 hq) ?_
      refine g_iload_n (pc' := 18) rfl rfl rfl ?_
      refine g_iald (pc' := 19) rfl rfl (a_T1 hq) hlt rfl ?_
      refine g_vi (y := cut 8 (m.1 (q + 1)) i) (e1) ?_
      refine g_iast (pc' := 20) rfl rfl (a_T1 hp) hlt rfl ?_
      refine g_aload_n (pc' := 21) rfl rfl rfl ?_
      refine g_getr (pc' := 24) rfl rfl (f_7_1 hp) ?_
      refine g_iload_n (pc' := 25) rfl rfl rfl ?_
      refine g_aload_n (pc' := 26) rfl rfl rfl ?_
      refine g_getr (pc' := 29) rfl rfl (f_7_1 hq) ?_
      refine g_iload_n (pc' := 30) rfl rfl rfl ?_
      refine g_iald (pc' := 31) rfl rfl (a_T2 hq) hlt rfl ?_
      refine g_vi (y := cut 8 (m.1 (q + 2)) i) (e2) ?_
      refine g_iast (pc' := 32) rfl rfl (a_T2 hp) hlt rfl ?_
      refine g_iinc (pc' := 35) (v := nI (i + 1)) rfl rfl rfl (nI_1 i) rfl ?_
      refine g_goto (pc' := 2) rfl rfl ?_
      refine ih (i + 1) _ (by omega) ((hF.s (by omega) (by omega)).s (by omega) (by omega)) ?_ ?_
      · show cut 8 (am_wi (am_wi m1.1 (p + 1) i _) (p + 2) i _ (p + 1)) = _
        rw [am_wi_n (by omega), am_wi_s, cut_upd hlt, g1, mixF_s]
      · show cut 8 (am_wi (am_wi m1.1 (p + 1) i _) (p + 2) i _ (p + 2)) = _
        rw [am_wi_s, cut_upd hlt, am_wi_n (by omega), g2, mixF_s]
  refine g_iconst (pc' := 1) (v := 0) rfl rfl (by decide) ?_
  refine g_istore_n (pc' := 2) rfl rfl rfl ?_
  exact loop 8 0 m rfl Fr.rf (mixF_0 _ _).symm (mixF_0 _ _).symm
theorem c_imageAt0 {K : Nat → aMem → Prop} (h : K 33 m) : gCr X 100 [.ref 1, .int 0] m K := by
  refine g_inR rfl ?_
  refine g_iload_n (pc' := 1) rfl rfl rfl ?_
  refine g_if_ne (pc' := 4) (t := 11) rfl rfl rfl (fun c => absurd c (by decide)) (fun _ => ?_)
  refine g_aload_n (pc' := 5) rfl rfl rfl ?_
  refine g_getr (pc' := 8) rfl rfl (f_10_10) ?_
  refine g_goto (pc' := 15) rfl rfl ?_
  exact g_areturn rfl rfl (h)
theorem c_keep0 {K : aMem → Prop} (h : ∀ m', Fr 33 43 m m' → imC m' 33 (some (stAt m 2, sgAt m 24)) → K m') : gCv X 11 [.ref 33, .ref 2, .ref 24] m K := by
  refine g_inV rfl ?_
  refine g_aload_n (pc' := 1) rfl rfl rfl ?_
  refine g_getr (pc' := 4) rfl rfl (f_2_0_33) ?_
  refine g_aload_n (pc' := 5) rfl rfl rfl ?_
  refine g_callv (pc' := 8) rfl rfl rfl rfl (Or.inr (rc_S isS_34)) ?_
  refine c_copyFrom isS_34 isS_2 (by decide) (fun m1 f1 e1 => ?_)
  refine g_aload_n (pc' := 9) rfl rfl rfl ?_
  refine g_getr (pc' := 12) rfl rfl (f_2_1_33) ?_
  refine g_aload_n (pc' := 13) rfl rfl rfl ?_
  refine g_callv (pc' := 16) rfl rfl rfl rfl (Or.inr (rc_T isT_40)) ?_
  refine c_sgCopy isT_40 isT_24 (by decide) (fun m2 f2 e2 => ?_)
  refine g_aload_n (pc' := 17) rfl rfl rfl ?_
  refine g_iconst (pc' := 18) (v := 1) rfl rfl (by decide) ?_
  refine g_putb (pc' := 21) rfl rfl (i_2_2_33) (by decide) ?_
  exact g_return rfl rfl (h _ (((f1.wide (by decide) (by decide)).tr (f2.wide (by decide) (by decide))).s (by omega) (by omega)) ⟨by simp [am_wi, upd], (st_wx (by omega)).trans ((f2.st (by omega)).trans e1), (Fr.sg (Fr.wi (Nat.le_refl 33) (by decide : 33 < 34)) (by omega)).trans (e2.trans (f1.sg (by omega)))⟩)
theorem c_imageAt1 {K : Nat → aMem → Prop} (h : K 43 m) : gCr X 100 [.ref 1, .int 1] m K := by
  refine g_inR rfl ?_
  refine g_iload_n (pc' := 1) rfl rfl rfl ?_
  refine g_if_ne (pc' := 4) (t := 11) rfl rfl rfl (fun _ => ?_) (fun c => absurd c (by decide))
  refine g_aload_n (pc' := 12) rfl rfl rfl ?_
  refine g_getr (pc' := 15) rfl rfl (f_10_11) ?_
  exact g_areturn rfl rfl (h)
theorem c_keep1 {K : aMem → Prop} (h : ∀ m', Fr 43 53 m m' → imC m' 43 (some (stAt m 2, sgAt m 24)) → K m') : gCv X 11 [.ref 43, .ref 2, .ref 24] m K := by
  refine g_inV rfl ?_
  refine g_aload_n (pc' := 1) rfl rfl rfl ?_
  refine g_getr (pc' := 4) rfl rfl (f_2_0_43) ?_
  refine g_aload_n (pc' := 5) rfl rfl rfl ?_
  refine g_callv (pc' := 8) rfl rfl rfl rfl (Or.inr (rc_S isS_44)) ?_
  refine c_copyFrom isS_44 isS_2 (by decide) (fun m1 f1 e1 => ?_)
  refine g_aload_n (pc' := 9) rfl rfl rfl ?_
  refine g_getr (pc' := 12) rfl rfl (f_2_1_43) ?_
  refine g_aload_n (pc' := 13) rfl rfl rfl ?_
  refine g_callv (pc' := 16) rfl rfl rfl rfl (Or.inr (rc_T isT_50)) ?_
  refine c_sgCopy isT_50 isT_24 (by decide) (fun m2 f2 e2 => ?_)
  refine g_aload_n (pc' := 17) rfl rfl rfl ?_
  refine g_iconst (pc' := 18) (v := 1) rfl rfl (by decide) ?_
  refine g_putb (pc' := 21) rfl rfl (i_2_2_43) (by decide) ?_
  exact g_return rfl rfl (h _ (((f1.wide (by decide) (by decide)).tr (f2.wide (by decide) (by decide))).s (by omega) (by omega)) ⟨by simp [am_wi, upd], (st_wx (by omega)).trans ((f2.st (by omega)).trans e1), (Fr.sg (Fr.wi (Nat.le_refl 43) (by decide : 43 < 44)) (by omega)).trans (e2.trans (f1.sg (by omega)))⟩)
theorem c_imageX {k : Int32} (hC : CI m A) (hk : ¬ (0 ≤ k ∧ k ≤ 1)) (h : ∀ m', Fr 1 53 m m' → CI m' (r_image A k).2 → K (r_image A k).1 m') : gCi X 97 [.ref 1, .int k] m K := by
  refine g_inI rfl ?_
  refine g_iload_n (pc' := 1) rfl rfl rfl ?_
  refine g_iconst (pc' := 2) (v := 0) rfl rfl (by decide) ?_
  refine g_iconst (pc' := 3) (v := 1) rfl rfl (by decide) ?_
  refine g_calli (pc' := 6) rfl rfl rfl rfl (Or.inl rfl) ?_
  refine c_isWithin (fun u1 u2 => ?_) (fun u0 => ?_)
  · exact absurd ⟨u1, u2⟩ hk
  · refine g_if_ne (pc' := 9) (t := 12) rfl rfl rfl (fun c => absurd c (by decide)) (fun _ => ?_)
    refine g_bipush (pc' := 11) (v := -2) rfl rfl (by decide) ?_
    exact g_ireturn rfl rfl (cf h (by unfold r_image; rw [if_pos hk]) Fr.rf hC)
theorem c_restoreX {k : Int32} (hC : CI m A) (hk : ¬ (0 ≤ k ∧ k ≤ 1)) (h : ∀ m', Fr 1 53 m m' → CI m' (r_restore A k).2 → K (r_restore A k).1 m') : gCi X 98 [.ref 1, .int k] m K := by
  refine g_inI rfl ?_
  refine g_iload_n (pc' := 1) rfl rfl rfl ?_
  refine g_iconst (pc' := 2) (v := 0) rfl rfl (by decide) ?_
  refine g_iconst (pc' := 3) (v := 1) rfl rfl (by decide) ?_
  refine g_calli (pc' := 6) rfl rfl rfl rfl (Or.inl rfl) ?_
  refine c_isWithin (fun u1 u2 => ?_) (fun u0 => ?_)
  · exact absurd ⟨u1, u2⟩ hk
  · refine g_if_ne (pc' := 9) (t := 12) rfl rfl rfl (fun c => absurd c (by decide)) (fun _ => ?_)
    refine g_bipush (pc' := 11) (v := -2) rfl rfl (by decide) ?_
    exact g_ireturn rfl rfl (cf h (by unfold r_restore; rw [if_pos hk]) Fr.rf hC)
theorem c_image0 (hC : CI m A) (h : ∀ m', Fr 1 53 m m' → CI m' (r_image A 0).2 → K (r_image A 0).1 m') : gCi X 97 [.ref 1, .int 0] m K := by
  refine g_inI rfl ?_
  refine g_iload_n (pc' := 1) rfl rfl rfl ?_
  refine g_iconst (pc' := 2) (v := 0) rfl rfl (by decide) ?_
  refine g_iconst (pc' := 3) (v := 1) rfl rfl (by decide) ?_
  refine g_calli (pc' := 6) rfl rfl rfl rfl (Or.inl rfl) ?_
  refine c_isWithin (fun u1 u2 => ?_) (fun u0 => ?_)
  · refine g_if_ne (pc' := 9) (t := 12) rfl rfl rfl (fun _ => ?_) (fun c => absurd c (by decide))
    refine g_aload_n (pc' := 13) rfl rfl rfl ?_
    refine g_iload_n (pc' := 14) rfl rfl rfl ?_
    refine g_callr (pc' := 17) rfl rfl rfl rfl (Or.inr rfl) ?_
    refine c_imageAt0 ?_
    refine g_aload_n (pc' := 18) rfl rfl rfl ?_
    refine g_getr (pc' := 21) rfl rfl (f_10_0) ?_
    refine g_aload_n (pc' := 22) rfl rfl rfl ?_
    refine g_getr (pc' := 25) rfl rfl (f_10_6) ?_
    refine g_callv (pc' := 28) rfl rfl rfl rfl (Or.inr rfl) ?_
    refine c_keep0 (fun m1 f1 e1 => ?_)
    rw [hC.1, hC.2.2.2.1] at e1
    refine g_iconst (pc' := 29) (v := 1) rfl rfl (by decide) ?_
    exact g_ireturn rfl rfl (cf (A' := (A.1, A.2.1, A.2.2.1, some (aS A, aT A), A.2.2.2.2)) h (by unfold r_image; rw [if_neg (nn ⟨by decide, by decide⟩), if_pos rfl]) (f1.wide (by decide) (by decide)) ⟨(f1.st (by omega)).trans hC.1, by rw [f1.i (by omega)]; exact hC.2.1, by rw [f1.i (by omega)]; exact hC.2.2.1, (f1.sg (by omega)).trans hC.2.2.2.1, e1, f1.im (by omega) hC.2.2.2.2.2.1, f1.rg (by omega) hC.2.2.2.2.2.2⟩)
  · exact absurd ⟨by decide, by decide⟩ u0
theorem c_restore0 (hC : CI m A) (h : ∀ m', Fr 1 53 m m' → CI m' (r_restore A 0).2 → K (r_restore A 0).1 m') : gCi X 98 [.ref 1, .int 0] m K := by
  refine g_inI rfl ?_
  have hi := hC.2.2.2.2.1
  cases hq : aI0 A with
  | none =>
    rw [hq] at hi
    refine g_iload_n (pc' := 1) rfl rfl rfl ?_
    refine g_iconst (pc' := 2) (v := 0) rfl rfl (by decide) ?_
    refine g_iconst (pc' := 3) (v := 1) rfl rfl (by decide) ?_
    refine g_calli (pc' := 6) rfl rfl rfl rfl (Or.inl rfl) ?_
    refine c_isWithin (fun u1 u2 => ?_) (fun u0 => ?_)
    · refine g_if_ne (pc' := 9) (t := 12) rfl rfl rfl (fun _ => ?_) (fun c => absurd c (by decide))
      refine g_aload_n (pc' := 13) rfl rfl rfl ?_
      refine g_iload_n (pc' := 14) rfl rfl rfl ?_
      refine g_callr (pc' := 17) rfl rfl rfl rfl (Or.inr rfl) ?_
      refine c_imageAt0 ?_
      refine g_getb (pc' := 20) rfl rfl (i_2_2_33) ?_
      refine g_vi (y := 0) (hi) ?_
      refine g_if_ne (pc' := 23) (t := 26) rfl rfl rfl (fun c_20 => absurd rfl c_20) (fun c_20 => ?_)
      refine g_bipush (pc' := 25) (v := -3) rfl rfl (by decide) ?_
      exact g_ireturn rfl rfl (cf h (by unfold r_restore; rw [if_neg (nn ⟨by decide, by decide⟩), if_pos rfl, hq]) Fr.rf hC)
    · exact absurd ⟨by decide, by decide⟩ u0
  | some q =>
    rw [hq] at hi
    obtain ⟨i1, i2, i3⟩ := hi
    refine g_iload_n (pc' := 1) rfl rfl rfl ?_
    refine g_iconst (pc' := 2) (v := 0) rfl rfl (by decide) ?_
    refine g_iconst (pc' := 3) (v := 1) rfl rfl (by decide) ?_
    refine g_calli (pc' := 6) rfl rfl rfl rfl (Or.inl rfl) ?_
    refine c_isWithin (fun u1 u2 => ?_) (fun u0 => ?_)
    · refine g_if_ne (pc' := 9) (t := 12) rfl rfl rfl (fun _ => ?_) (fun c => absurd c (by decide))
      refine g_aload_n (pc' := 13) rfl rfl rfl ?_
      refine g_iload_n (pc' := 14) rfl rfl rfl ?_
      refine g_callr (pc' := 17) rfl rfl rfl rfl (Or.inr rfl) ?_
      refine c_imageAt0 ?_
      refine g_getb (pc' := 20) rfl rfl (i_2_2_33) ?_
      refine g_vi (y := 1) (i1) ?_
      refine g_if_ne (pc' := 23) (t := 26) rfl rfl rfl (fun c_20 => ?_) (fun c_20 => absurd c_20 (by decide))
      refine g_aload_n (pc' := 27) rfl rfl rfl ?_
      refine g_getr (pc' := 30) rfl rfl (f_10_0) ?_
      refine g_aload_n (pc' := 31) rfl rfl rfl ?_
      refine g_iload_n (pc' := 32) rfl rfl rfl ?_
      refine g_callr (pc' := 35) rfl rfl rfl rfl (Or.inr rfl) ?_
      refine c_imageAt0 ?_
      refine g_getr (pc' := 38) rfl rfl (f_2_0_33) ?_
      refine g_callv (pc' := 41) rfl rfl rfl rfl (Or.inr (rc_S isS_2)) ?_
      refine c_copyFrom isS_2 isS_34 (by decide) (fun m1 f1 e1 => ?_)
      refine g_aload_n (pc' := 42) rfl rfl rfl ?_
      refine g_getr (pc' := 45) rfl rfl (f_10_6) ?_
      refine g_aload_n (pc' := 46) rfl rfl rfl ?_
      refine g_iload_n (pc' := 47) rfl rfl rfl ?_
      refine g_callr (pc' := 50) rfl rfl rfl rfl (Or.inr rfl) ?_
      refine c_imageAt0 ?_
      refine g_getr (pc' := 53) rfl rfl (f_2_1_33) ?_
      refine g_callv (pc' := 56) rfl rfl rfl rfl (Or.inr (rc_T isT_24)) ?_
      refine c_sgCopy isT_24 isT_40 (by decide) (fun m2 f2 e2 => ?_)
      refine g_iconst (pc' := 57) (v := 1) rfl rfl (by decide) ?_
      exact g_ireturn rfl rfl (cf (A' := (q.1, A.2.1, q.2, A.2.2.2)) h (by unfold r_restore; rw [if_neg (nn ⟨by decide, by decide⟩), if_pos rfl, hq]) ((f1.wide (by decide) (by decide)).tr (f2.wide (by decide) (by decide))) ⟨(f2.st (by omega)).trans (e1.trans i2), by rw [f2.i (by omega), f1.i (by omega)]; exact hC.2.1, by rw [f2.i (by omega), f1.i (by omega)]; exact hC.2.2.1, e2.trans ((f1.sg (by omega)).trans i3), f2.im (by omega) (f1.im (by omega) hC.2.2.2.2.1), f2.im (by omega) (f1.im (by omega) hC.2.2.2.2.2.1), f2.rg (by omega) (f1.rg (by omega) hC.2.2.2.2.2.2)⟩)
    · exact absurd ⟨by decide, by decide⟩ u0
theorem c_image1 (hC : CI m A) (h : ∀ m', Fr 1 53 m m' → CI m' (r_image A 1).2 → K (r_image A 1).1 m') : gCi X 97 [.ref 1, .int 1] m K := by
  refine g_inI rfl ?_
  refine g_iload_n (pc' := 1) rfl rfl rfl ?_
  refine g_iconst (pc' := 2) (v := 0) rfl rfl (by decide) ?_
  refine g_iconst (pc' := 3) (v := 1) rfl rfl (by decide) ?_
  refine g_calli (pc' := 6) rfl rfl rfl rfl (Or.inl rfl) ?_
  refine c_isWithin (fun u1 u2 => ?_) (fun u0 => ?_)
  · refine g_if_ne (pc' := 9) (t := 12) rfl rfl rfl (fun _ => ?_) (fun c => absurd c (by decide))
    refine g_aload_n (pc' := 13) rfl rfl rfl ?_
    refine g_iload_n (pc' := 14) rfl rfl rfl ?_
    refine g_callr (pc' := 17) rfl rfl rfl rfl (Or.inr rfl) ?_
    refine c_imageAt1 ?_
    refine g_aload_n (pc' := 18) rfl rfl rfl ?_
    refine g_getr (pc' := 21) rfl rfl (f_10_0) ?_
    refine g_aload_n (pc' := 22) rfl rfl rfl ?_
    refine g_getr (pc' := 25) rfl rfl (f_10_6) ?_
    refine g_callv (pc' := 28) rfl rfl rfl rfl (Or.inr rfl) ?_
    refine c_keep1 (fun m1 f1 e1 => ?_)
    rw [hC.1, hC.2.2.2.1] at e1
    refine g_iconst (pc' := 29) (v := 1) rfl rfl (by decide) ?_
    exact g_ireturn rfl rfl (cf (A' := (A.1, A.2.1, A.2.2.1, A.2.2.2.1, some (aS A, aT A))) h (by unfold r_image; rw [if_neg (nn ⟨by decide, by decide⟩), if_neg (by decide)]) (f1.wide (by decide) (by decide)) ⟨(f1.st (by omega)).trans hC.1, by rw [f1.i (by omega)]; exact hC.2.1, by rw [f1.i (by omega)]; exact hC.2.2.1, (f1.sg (by omega)).trans hC.2.2.2.1, f1.im (by omega) hC.2.2.2.2.1, e1, f1.rg (by omega) hC.2.2.2.2.2.2⟩)
  · exact absurd ⟨by decide, by decide⟩ u0
theorem c_restore1 (hC : CI m A) (h : ∀ m', Fr 1 53 m m' → CI m' (r_restore A 1).2 → K (r_restore A 1).1 m') : gCi X 98 [.ref 1, .int 1] m K := by
  refine g_inI rfl ?_
  have hi := hC.2.2.2.2.2.1
  cases hq : aI1 A with
  | none =>
    rw [hq] at hi
    refine g_iload_n (pc' := 1) rfl rfl rfl ?_
    refine g_iconst (pc' := 2) (v := 0) rfl rfl (by decide) ?_
    refine g_iconst (pc' := 3) (v := 1) rfl rfl (by decide) ?_
    refine g_calli (pc' := 6) rfl rfl rfl rfl (Or.inl rfl) ?_
    refine c_isWithin (fun u1 u2 => ?_) (fun u0 => ?_)
    · refine g_if_ne (pc' := 9) (t := 12) rfl rfl rfl (fun _ => ?_) (fun c => absurd c (by decide))
      refine g_aload_n (pc' := 13) rfl rfl rfl ?_
      refine g_iload_n (pc' := 14) rfl rfl rfl ?_
      refine g_callr (pc' := 17) rfl rfl rfl rfl (Or.inr rfl) ?_
      refine c_imageAt1 ?_
      refine g_getb (pc' := 20) rfl rfl (i_2_2_43) ?_
      refine g_vi (y := 0) (hi) ?_
      refine g_if_ne (pc' := 23) (t := 26) rfl rfl rfl (fun c_20 => absurd rfl c_20) (fun c_20 => ?_)
      refine g_bipush (pc' := 25) (v := -3) rfl rfl (by decide) ?_
      exact g_ireturn rfl rfl (cf h (by unfold r_restore; rw [if_neg (nn ⟨by decide, by decide⟩), if_neg (by decide), hq]) Fr.rf hC)
    · exact absurd ⟨by decide, by decide⟩ u0
  | some q =>
    rw [hq] at hi
    obtain ⟨i1, i2, i3⟩ := hi
    refine g_iload_n (pc' := 1) rfl rfl rfl ?_
    refine g_iconst (pc' := 2) (v := 0) rfl rfl (by decide) ?_
    refine g_iconst (pc' := 3) (v := 1) rfl rfl (by decide) ?_
    refine g_calli (pc' := 6) rfl rfl rfl rfl (Or.inl rfl) ?_
    refine c_isWithin (fun u1 u2 => ?_) (fun u0 => ?_)
    · refine g_if_ne (pc' := 9) (t := 12) rfl rfl rfl (fun _ => ?_) (fun c => absurd c (by decide))
      refine g_aload_n (pc' := 13) rfl rfl rfl ?_
      refine g_iload_n (pc' := 14) rfl rfl rfl ?_
      refine g_callr (pc' := 17) rfl rfl rfl rfl (Or.inr rfl) ?_
      refine c_imageAt1 ?_
      refine g_getb (pc' := 20) rfl rfl (i_2_2_43) ?_
      refine g_vi (y := 1) (i1) ?_
      refine g_if_ne (pc' := 23) (t := 26) rfl rfl rfl (fun c_20 => ?_) (fun c_20 => absurd c_20 (by decide))
      refine g_aload_n (pc' := 27) rfl rfl rfl ?_
      refine g_getr (pc' := 30) rfl rfl (f_10_0) ?_
      refine g_aload_n (pc' := 31) rfl rfl rfl ?_
      refine g_iload_n (pc' := 32) rfl rfl rfl ?_
      refine g_callr (pc' := 35) rfl rfl rfl rfl (Or.inr rfl) ?_
      refine c_imageAt1 ?_
      refine g_getr (pc' := 38) rfl rfl (f_2_0_43) ?_
      refine g_callv (pc' := 41) rfl rfl rfl rfl (Or.inr (rc_S isS_2)) ?_
      refine c_copyFrom isS_2 isS_44 (by decide) (fun m1 f1 e1 => ?_)
      refine g_aload_n (pc' := 42) rfl rfl rfl ?_
      refine g_getr (pc' := 45) rfl rfl (f_10_6) ?_
      refine g_aload_n (pc' := 46) rfl rfl rfl ?_
      refine g_iload_n (pc' := 47) rfl rfl rfl ?_
      refine g_callr (pc' := 50) rfl rfl rfl rfl (Or.inr rfl) ?_
      refine c_imageAt1 ?_
      refine g_getr (pc' := 53) rfl rfl (f_2_1_43) ?_
      refine g_callv (pc' := 56) rfl rfl rfl rfl (Or.inr (rc_T isT_24)) ?_
      refine c_sgCopy isT_24 isT_50 (by decide) (fun m2 f2 e2 => ?_)
      refine g_iconst (pc' := 57) (v := 1) rfl rfl (by decide) ?_
      exact g_ireturn rfl rfl (cf (A' := (q.1, A.2.1, q.2, A.2.2.2)) h (by unfold r_restore; rw [if_neg (nn ⟨by decide, by decide⟩), if_neg (by decide), hq]) ((f1.wide (by decide) (by decide)).tr (f2.wide (by decide) (by decide))) ⟨(f2.st (by omega)).trans (e1.trans i2), by rw [f2.i (by omega), f1.i (by omega)]; exact hC.2.1, by rw [f2.i (by omega), f1.i (by omega)]; exact hC.2.2.1, e2.trans ((f1.sg (by omega)).trans i3), f2.im (by omega) (f1.im (by omega) hC.2.2.2.2.1), f2.im (by omega) (f1.im (by omega) hC.2.2.2.2.2.1), f2.rg (by omega) (f1.rg (by omega) hC.2.2.2.2.2.2)⟩)
    · exact absurd ⟨by decide, by decide⟩ u0
theorem c_image {k : Int32} (hC : CI m A) (h : ∀ m', Fr 1 53 m m' → CI m' (r_image A k).2 → K (r_image A k).1 m') : gCi X 97 [.ref 1, .int k] m K := by
  by_cases hk : 0 ≤ k ∧ k ≤ 1
  · obtain ⟨j, hj, e⟩ := i_in (n := 1) (by decide) hk.1 hk.2
    rcases (show j = 0 ∨ j = 1 by omega) with rfl | rfl
    · subst e; exact c_image0 hC h
    · subst e; exact c_image1 hC h
  · exact c_imageX hC hk h
theorem c_restore {k : Int32} (hC : CI m A) (h : ∀ m', Fr 1 53 m m' → CI m' (r_restore A k).2 → K (r_restore A k).1 m') : gCi X 98 [.ref 1, .int k] m K := by
  by_cases hk : 0 ≤ k ∧ k ≤ 1
  · obtain ⟨j, hj, e⟩ := i_in (n := 1) (by decide) hk.1 hk.2
    rcases (show j = 0 ∨ j = 1 by omega) with rfl | rfl
    · subst e; exact c_restore0 hC h
    · subst e; exact c_restore1 hC h
  · exact c_restoreX hC hk h
theorem sg_kk {n : Nat} (hn : (aT A).1 = nI n) (hC : CI m A) : m.1 24 2 = nI n := by
  have := congrArg (fun q : aSg => q.1) hC.2.2.2.1
  exact this.trans hn
theorem Fr.ci {lo hi : Nat} {m' : aMem} {A' : aA} (hC : CI m A) (f : Fr lo hi m m') (hlo : 24 ≤ lo) (hhi : hi ≤ 27) (hs : sgAt m' 24 = aT A') (e1 : aS A' = aS A) (e2 : A'.2.1 = A.2.1) (e3 : A'.2.2.2 = A.2.2.2) : CI m' A' := by
  obtain ⟨h1, h2, h3, h4, h5, h6⟩ := hC
  have en : aN A' = aN A := congrArg (fun q : Nat × (Nat → Int32) => q.1) e2
  have eg : aG A' = aG A := congrArg (fun q : Nat × (Nat → Int32) => q.2) e2
  have e0 : aI0 A' = aI0 A := congrArg (fun q : aIm × aIm => q.1) e3
  have e9 : aI1 A' = aI1 A := congrArg (fun q : aIm × aIm => q.2) e3
  exact ⟨(f.st (by omega)).trans (h1.trans e1.symm), by rw [f.i (by omega), en]; exact h2, by rw [f.i (by omega), en, eg]; exact h3, hs, by rw [e0]; exact f.im (by omega) h5, by rw [e9]; exact f.im (by omega) h6.1, f.rg (by omega) h6.2⟩
theorem c_sgAdd {n : Nat} {x y : Int32} (hn : m.1 24 2 = nI n) (h8 : n ≤ 8) (h1 : n < 8 → ∀ m', Fr 24 27 m m' → sgAt m' 24 = (nI (n + 1), upd (sgAt m 24).2.1 n x, upd (sgAt m 24).2.2 n y) → K 1 m') (h0 : ¬ n < 8 → K 0 m) : gCi X 45 [.ref 24, .int x, .int y] m K := by
  refine g_inI rfl ?_
  refine g_aload_n (pc' := 1) rfl rfl rfl ?_
  refine g_geti (pc' := 4) rfl rfl (i_7_2 isT_24) ?_
  refine g_vi (y := nI n) (hn) ?_
  refine g_bipush (pc' := 6) (v := 8) rfl rfl (by decide) ?_
  refine g_icmp_lt (pc' := 9) (t := 11) rfl rfl rfl (fun c_6 => ?_) (fun c_6 => ?_)
  · have hlt : n < 8 := Nat.not_le.mp (fun z => nI_nlt (b := 8) z (by omega) c_6)
    refine g_aload_n (pc' := 12) rfl rfl rfl ?_
    refine g_getr (pc' := 15) rfl rfl (f_7_0 isT_24) ?_
    refine g_aload_n (pc' := 16) rfl rfl rfl ?_
    refine g_geti (pc' := 19) rfl rfl (i_7_2 isT_24) ?_
    refine g_vi (y := nI n) (hn) ?_
    refine g_iload_n (pc' := 20) rfl rfl rfl ?_
    refine g_iast (pc' := 21) rfl rfl (a_T1 isT_24) hlt rfl ?_
    refine g_aload_n (pc' := 22) rfl rfl rfl ?_
    refine g_getr (pc' := 25) rfl rfl (f_7_1 isT_24) ?_
    refine g_aload_n (pc' := 26) rfl rfl rfl ?_
    refine g_geti (pc' := 29) rfl rfl (i_7_2 isT_24) ?_
    refine g_vi (y := nI n) (hn) ?_
    refine g_iload_n (pc' := 30) rfl rfl rfl ?_
    refine g_iast (pc' := 31) rfl rfl (a_T2 isT_24) hlt rfl ?_
    refine g_aload_n (pc' := 32) rfl rfl rfl ?_
    refine g_dup (pc' := 33) rfl rfl rfl ?_
    refine g_geti (pc' := 36) rfl rfl (i_7_2 isT_24) ?_
    refine g_vi (y := nI n) (hn) ?_
    refine g_iconst (pc' := 37) (v := 1) rfl rfl (by decide) ?_
    refine g_iadd (pc' := 38) rfl rfl ?_
    refine g_vi (y := nI (n + 1)) (nI_1 n) ?_
    refine g_puti (pc' := 41) rfl rfl (i_7_2 isT_24) ?_
    refine g_iconst (pc' := 42) (v := 1) rfl rfl (by decide) ?_
    exact g_zreturn rfl rfl (by decide) (h1 hlt _ (((Fr.rf.s (by omega) (by omega)).s (by omega) (by omega)).s (by omega) (by omega)) (by
          unfold sgAt
          simp only [am_wi_s, am_wi_n (show (24 : Nat) + 1 ≠ 24 by decide), am_wi_n (show (24 : Nat) + 2 ≠ 24 by decide), am_wi_n (show (24 : Nat) + 1 ≠ 24 + 2 by decide), am_wi_n (show (24 : Nat) + 2 ≠ 24 + 1 by decide), am_wi_n (show (24 : Nat) + 1 ≠ 26 by decide)]
          rw [cut_upd hlt, cut_upd hlt]
          simp [upd]))
  · refine g_iconst (pc' := 10) (v := 0) rfl rfl (by decide) ?_
    exact g_zreturn rfl rfl (by decide) (h0 (fun z => c_6 (nI_lt (b := 8) z (by decide))))
theorem c_harder {x y : Int32} (hC : CI m A) {n : Nat} (hn : (aT A).1 = nI n) (h8 : n ≤ 8) (h : ∀ m', Fr 1 53 m m' → CI m' (r_harder A x y).2 → K (r_harder A x y).1 m') : gCi X 90 [.ref 1, .int x, .int y] m K := by
  refine g_inI rfl ?_
  refine g_iload_n (pc' := 1) rfl rfl rfl ?_
  refine g_iconst (pc' := 2) (v := 0) rfl rfl (by decide) ?_
  refine g_iconst (pc' := 3) (v := 4) rfl rfl (by decide) ?_
  refine g_calli (pc' := 6) rfl rfl rfl rfl (Or.inl rfl) ?_
  refine c_isWithin (fun u1 u2 => ?_) (fun u0 => ?_)
  · refine g_if_eq (pc' := 9) (t := 23) rfl rfl rfl (fun c => absurd c (by decide)) (fun _ => ?_)
    refine g_iload_n (pc' := 10) rfl rfl rfl ?_
    refine g_iconst (pc' := 11) (v := 0) rfl rfl (by decide) ?_
    refine g_iconst (pc' := 12) (v := 4) rfl rfl (by decide) ?_
    refine g_calli (pc' := 15) rfl rfl rfl rfl (Or.inl rfl) ?_
    refine c_isWithin (fun w1 w2 => ?_) (fun w0 => ?_)
    · refine g_if_eq (pc' := 18) (t := 23) rfl rfl rfl (fun c => absurd c (by decide)) (fun _ => ?_)
      refine g_iload_n (pc' := 19) rfl rfl rfl ?_
      refine g_iload_n (pc' := 20) rfl rfl rfl ?_
      refine g_icmp_ne (pc' := 23) (t := 26) rfl rfl rfl (fun c_20 => ?_) (fun c_20 => ?_)
      · have hno : ¬ (¬ (0 ≤ x ∧ x ≤ 4) ∨ ¬ (0 ≤ y ∧ y ≤ 4) ∨ x = y) := fun z => z.elim (nn ⟨u1, u2⟩) (fun z => z.elim (nn ⟨w1, w2⟩) c_20)
        refine g_aload_n (pc' := 27) rfl rfl rfl ?_
        refine g_getr (pc' := 30) rfl rfl (f_10_6) ?_
        refine g_iload_n (pc' := 31) rfl rfl rfl ?_
        refine g_iload_n (pc' := 32) rfl rfl rfl ?_
        refine g_calli (pc' := 35) rfl rfl rfl rfl (Or.inr (rc_T isT_24)) ?_
        refine c_sgAdd (sg_kk hn hC) h8 (fun hlt m1 f1 e1 => ?_) (fun z => ?_)
        · refine g_if_eq (pc' := 38) (t := 48) rfl rfl rfl (fun c => absurd c (by decide)) (fun _ => ?_)
          refine g_aload_n (pc' := 39) rfl rfl rfl ?_
          refine g_getr (pc' := 42) rfl rfl (f_10_6) ?_
          refine g_geti (pc' := 45) rfl rfl (i_7_2 isT_24) ?_
          refine g_vi (y := nI (n + 1)) (congrArg (fun q : aSg => q.1) e1) ?_
          refine g_goto (pc' := 50) rfl rfl ?_
          exact g_ireturn rfl rfl (cf (A' := (A.1, A.2.1, (nI (n + 1), upd (aT A).2.1 n x, upd (aT A).2.2 n y), A.2.2.2)) h (by unfold r_harder; rw [if_neg hno, hn, if_pos (show nI n < 8 from nI_lt (b := 8) hlt (by decide)), nI_1, ix_nI (by omega)]) (f1.wide (by decide) (by decide)) (Fr.ci hC f1 (by decide) (by decide) (e1.trans (by rw [hC.2.2.2.1]; rfl)) rfl rfl rfl))
        · refine g_if_eq (pc' := 38) (t := 48) rfl rfl rfl (fun _ => ?_) (fun c => absurd c (by decide))
          refine g_bipush (pc' := 50) (v := -4) rfl rfl (by decide) ?_
          exact g_ireturn rfl rfl (cf h (by unfold r_harder; rw [if_neg hno, hn, if_neg (show ¬ nI n < 8 from nI_nlt (b := 8) (by omega) (by omega))]) Fr.rf hC)
      · refine g_bipush (pc' := 25) (v := -2) rfl rfl (by decide) ?_
        exact g_ireturn rfl rfl (cf h (by unfold r_harder; rw [if_pos (Or.inr (Or.inr c_20))]) Fr.rf hC)
    · refine g_if_eq (pc' := 18) (t := 23) rfl rfl rfl (fun _ => ?_) (fun c => absurd c (by decide))
      refine g_bipush (pc' := 25) (v := -2) rfl rfl (by decide) ?_
      exact g_ireturn rfl rfl (cf h (by unfold r_harder; rw [if_pos (Or.inr (Or.inl w0))]) Fr.rf hC)
  · refine g_if_eq (pc' := 9) (t := 23) rfl rfl rfl (fun _ => ?_) (fun c => absurd c (by decide))
    refine g_bipush (pc' := 25) (v := -2) rfl rfl (by decide) ?_
    exact g_ireturn rfl rfl (cf h (by unfold r_harder; rw [if_pos (Or.inl u0)]) Fr.rf hC)
theorem c_forget (hC : CI m A) (h : ∀ m', Fr 1 53 m m' → CI m' (r_forget A).2 → K (r_forget A).1 m') : gCi X 91 [.ref 1] m K := by
  refine g_inI rfl ?_
  refine g_aload_n (pc' := 1) rfl rfl rfl ?_
  refine g_getr (pc' := 4) rfl rfl (f_10_6) ?_
  refine g_geti (pc' := 7) rfl rfl (i_7_2 isT_24) ?_
  refine g_vi (y := (aT A).1) (congrArg (fun q : aSg => q.1) hC.2.2.2.1) ?_
  refine g_istore_n (pc' := 8) rfl rfl rfl ?_
  refine g_aload_n (pc' := 9) rfl rfl rfl ?_
  refine g_getr (pc' := 12) rfl rfl (f_10_6) ?_
  refine g_iconst (pc' := 13) (v := 0) rfl rfl (by decide) ?_
  refine g_puti (pc' := 16) rfl rfl (i_7_2 isT_24) ?_
  refine g_iload_n (pc' := 17) rfl rfl rfl ?_
  exact g_ireturn rfl rfl (cf (A' := (A.1, A.2.1, (0, (aT A).2), A.2.2.2)) h rfl (Fr.rf.s (by omega) (by omega)) (Fr.ci hC (Fr.wi (Nat.le_refl 24) (by decide : 24 < 25)) (by decide) (by decide) (by
      have := hC.2.2.2.1
      unfold sgAt at this ⊢
      show (am_wi m.1 24 2 0 24 2, cut 8 (am_wi m.1 24 2 0 25), cut 8 (am_wi m.1 24 2 0 26)) = (0, (aT A).2)
      rw [am_wi_s, am_wi_n (by decide), am_wi_n (by decide), ← this]
      simp [upd]) rfl rfl rfl))
theorem c_year {x n w : Int32} (hC : CI m A) (h : ∀ m', Fr 1 53 m m' → CI m' (r_year A x n w).2 → K (r_year A x n w).1 m') : gCi X 96 [.ref 1, .int x, .int n, .int w] m K := by
  refine g_inI rfl ?_
  refine g_iload_n (pc' := 1) rfl rfl rfl ?_
  refine g_iconst (pc' := 2) (v := 0) rfl rfl (by decide) ?_
  refine g_sipush (pc' := 5) (v := 9999) rfl rfl (by decide) ?_
  refine g_calli (pc' := 8) rfl rfl rfl rfl (Or.inl rfl) ?_
  refine c_isWithin (fun u1 u2 => ?_) (fun u0 => ?_)
  · refine g_if_eq (pc' := 11) (t := 30) rfl rfl rfl (fun c => absurd c (by decide)) (fun _ => ?_)
    refine g_iload_n (pc' := 12) rfl rfl rfl ?_
    refine g_iconst (pc' := 13) (v := 1) rfl rfl (by decide) ?_
    refine g_bipush (pc' := 15) (v := 99) rfl rfl (by decide) ?_
    refine g_calli (pc' := 18) rfl rfl rfl rfl (Or.inl rfl) ?_
    refine c_isWithin (fun v1 v2 => ?_) (fun v0 => ?_)
    · refine g_if_eq (pc' := 21) (t := 30) rfl rfl rfl (fun c => absurd c (by decide)) (fun _ => ?_)
      refine g_iload_n (pc' := 22) rfl rfl rfl ?_
      refine g_iconst (pc' := 23) (v := 0) rfl rfl (by decide) ?_
      refine g_iconst (pc' := 24) (v := 2) rfl rfl (by decide) ?_
      refine g_calli (pc' := 27) rfl rfl rfl rfl (Or.inl rfl) ?_
      refine c_isWithin (fun w1 w2 => ?_) (fun w0 => ?_)
      · refine g_if_ne (pc' := 30) (t := 33) rfl rfl rfl (fun _ => ?_) (fun c => absurd c (by decide))
        have hno : ¬ (¬ (0 ≤ x ∧ x ≤ 9999) ∨ ¬ (1 ≤ n ∧ n ≤ 99) ∨ ¬ (0 ≤ w ∧ w ≤ 2)) := fun z => z.elim (nn ⟨u1, u2⟩) (fun z => z.elim (nn ⟨v1, v2⟩) (nn ⟨w1, w2⟩))
        obtain ⟨kx, hkx, ex⟩ := i_in (n := 9999) (by decide) u1 u2
        obtain ⟨kn, hkn, en⟩ := i_rng (a := 1) (b := 99) rfl rfl (by decide) (by decide) v1 v2
        have er : r_year A x n w = (if w = 0 then brokenB (yearN (1 + kn) (aS A) kx).1 else if w = 1 then mostV (yearN (1 + kn) (aS A) kx).1 else scoresB (yearN (1 + kn) (aS A) kx).1 0, A) := by unfold r_year; rw [if_neg hno, en, ex, ix_nI (by omega), show ix (nI kx) = kx from nI_clamp (by omega)]
        subst en
        refine g_aload_n (pc' := 34) rfl rfl rfl ?_
        refine g_getr (pc' := 37) rfl rfl (f_10_3) ?_
        refine g_aload_n (pc' := 38) rfl rfl rfl ?_
        refine g_getr (pc' := 41) rfl rfl (f_10_0) ?_
        refine g_callv (pc' := 44) rfl rfl rfl rfl (Or.inr (rc_S isS_11)) ?_
        refine c_copyFrom isS_11 isS_2 (by decide) (fun m1 f1 e1 => ?_)
        refine g_aload_n (pc' := 45) rfl rfl rfl ?_
        refine g_getr (pc' := 48) rfl rfl (f_10_3) ?_
        refine g_iload_n (pc' := 49) rfl rfl rfl ?_
        refine g_iload_n (pc' := 50) rfl rfl rfl ?_
        refine g_callv (pc' := 53) rfl rfl rfl rfl (Or.inr (rc_S isS_11)) ?_
        refine c_passByDraws isS_11 (by omega) (show kx < 65537 by omega) ex (fun m2 f2 e2 => ?_)
        rw [e1, hC.1] at e2
        refine g_iload_n (pc' := 54) rfl rfl rfl ?_
        refine g_if_ne (pc' := 57) (t := 67) rfl rfl rfl (fun c_54 => ?_) (fun c_54 => ?_)
        · refine g_iload_n (pc' := 68) rfl rfl rfl ?_
          refine g_iconst (pc' := 69) (v := 1) rfl rfl (by decide) ?_
          refine g_icmp_ne (pc' := 72) (t := 82) rfl rfl rfl (fun c_69 => ?_) (fun c_69 => ?_)
          · refine g_aload_n (pc' := 83) rfl rfl rfl ?_
            refine g_getr (pc' := 86) rfl rfl (f_10_3) ?_
            refine g_iconst (pc' := 87) (v := 0) rfl rfl (by decide) ?_
            refine g_calli (pc' := 90) rfl rfl rfl rfl (Or.inr (rc_S isS_11)) ?_
            refine c_scoresOfChild isS_11 ?_
            exact g_ireturn rfl rfl (g_eq (cf h er ((f1.wide (by decide) (by decide)).tr (f2.wide (by decide) (by decide))) ((hC.fr f1 (by omega)).fr f2 (by omega))) (by rw [e2, if_neg c_54, if_neg c_69]) rfl)
          · refine g_aload_n (pc' := 73) rfl rfl rfl ?_
            refine g_getr (pc' := 76) rfl rfl (f_10_3) ?_
            refine g_calli (pc' := 79) rfl rfl rfl rfl (Or.inr (rc_S isS_11)) ?_
            refine c_mostScore isS_11 ?_
            refine g_goto (pc' := 90) rfl rfl ?_
            exact g_ireturn rfl rfl (g_eq (cf h er ((f1.wide (by decide) (by decide)).tr (f2.wide (by decide) (by decide))) ((hC.fr f1 (by omega)).fr f2 (by omega))) (by rw [e2, if_neg c_54, if_pos c_69]) rfl)
        · refine g_aload_n (pc' := 58) rfl rfl rfl ?_
          refine g_getr (pc' := 61) rfl rfl (f_10_3) ?_
          refine g_calli (pc' := 64) rfl rfl rfl rfl (Or.inr (rc_S isS_11)) ?_
          refine c_brokenNuts isS_11 ?_
          refine g_goto (pc' := 90) rfl rfl ?_
          exact g_ireturn rfl rfl (g_eq (cf h er ((f1.wide (by decide) (by decide)).tr (f2.wide (by decide) (by decide))) ((hC.fr f1 (by omega)).fr f2 (by omega))) (by rw [e2, if_pos c_54]) rfl)
      · refine g_if_ne (pc' := 30) (t := 33) rfl rfl rfl (fun c => absurd c (by decide)) (fun _ => ?_)
        refine g_bipush (pc' := 32) (v := -2) rfl rfl (by decide) ?_
        exact g_ireturn rfl rfl (cf h (by unfold r_year; rw [if_pos (Or.inr (Or.inr w0))]) Fr.rf hC)
    · refine g_if_eq (pc' := 21) (t := 30) rfl rfl rfl (fun _ => ?_) (fun c => absurd c (by decide))
      refine g_bipush (pc' := 32) (v := -2) rfl rfl (by decide) ?_
      exact g_ireturn rfl rfl (cf h (by unfold r_year; rw [if_pos (Or.inr (Or.inl v0))]) Fr.rf hC)
  · refine g_if_eq (pc' := 11) (t := 30) rfl rfl rfl (fun _ => ?_) (fun c => absurd c (by decide))
    refine g_bipush (pc' := 32) (v := -2) rfl rfl (by decide) ?_
    exact g_ireturn rfl rfl (cf h (by unfold r_year; rw [if_pos (Or.inl u0)]) Fr.rf hC)
theorem c_told0 (hC : CI m A) (h : ∀ m', Fr 1 53 m m' → CI m' (r_told A 0).2 → K (r_told A 0).1 m') : gCi X 99 [.ref 1, .int 0] m K := by
  refine g_inI rfl ?_
  refine g_iload_n (pc' := 1) rfl rfl rfl ?_
  skip
  refine g_tabI (pc' := 32) rfl (by decide) rfl rfl ?_
  refine g_aload_n (pc' := 33) rfl rfl rfl ?_
  refine g_getr (pc' := 36) rfl rfl (f_10_1) ?_
  refine g_geti (pc' := 39) rfl rfl (i_4_1) ?_
  refine g_vi (y := nI (aN A)) (hC.2.1) ?_
  exact g_ireturn rfl rfl (cf h (by unfold r_told; rw [if_pos rfl]) Fr.rf hC)
theorem c_told1 (hC : CI m A) (h : ∀ m', Fr 1 53 m m' → CI m' (r_told A 1).2 → K (r_told A 1).1 m') : gCi X 99 [.ref 1, .int 1] m K := by
  refine g_inI rfl ?_
  refine g_iload_n (pc' := 1) rfl rfl rfl ?_
  skip
  refine g_tabI (pc' := 40) rfl (by decide) rfl rfl ?_
  refine g_aload_n (pc' := 41) rfl rfl rfl ?_
  refine g_getr (pc' := 44) rfl rfl (f_10_0) ?_
  refine g_calli (pc' := 47) rfl rfl rfl rfl (Or.inr (rc_S isS_2)) ?_
  refine c_brokenNuts isS_2 ?_
  exact g_ireturn rfl rfl (g_eq (cf h (by unfold r_told; rw [if_neg (by decide), if_pos rfl]) Fr.rf hC) (by rw [hC.1]) rfl)
theorem c_told2 (hC : CI m A) (h : ∀ m', Fr 1 53 m m' → CI m' (r_told A 2).2 → K (r_told A 2).1 m') : gCi X 99 [.ref 1, .int 2] m K := by
  refine g_inI rfl ?_
  refine g_iload_n (pc' := 1) rfl rfl rfl ?_
  skip
  refine g_tabI (pc' := 48) rfl (by decide) rfl rfl ?_
  refine g_aload_n (pc' := 49) rfl rfl rfl ?_
  refine g_getr (pc' := 52) rfl rfl (f_10_0) ?_
  refine g_geti (pc' := 55) rfl rfl (i_8_5 isS_2) ?_
  refine g_vi (y := sD (aS A)) (by rw [← hC.1]; rfl) ?_
  exact g_ireturn rfl rfl (cf h (by unfold r_told; rw [if_neg (by decide), if_neg (by decide), if_pos rfl]) Fr.rf hC)
theorem c_told3 (hC : CI m A) (h : ∀ m', Fr 1 53 m m' → CI m' (r_told A 3).2 → K (r_told A 3).1 m') : gCi X 99 [.ref 1, .int 3] m K := by
  refine g_inI rfl ?_
  refine g_iload_n (pc' := 1) rfl rfl rfl ?_
  skip
  refine g_tabI (pc' := 56) rfl (by decide) rfl rfl ?_
  refine g_aload_n (pc' := 57) rfl rfl rfl ?_
  refine g_getr (pc' := 60) rfl rfl (f_10_6) ?_
  refine g_geti (pc' := 63) rfl rfl (i_7_2 isT_24) ?_
  refine g_vi (y := (aT A).1) (congrArg (fun q : aSg => q.1) hC.2.2.2.1) ?_
  exact g_ireturn rfl rfl (cf h (by unfold r_told; rw [if_neg (by decide), if_neg (by decide), if_neg (by decide), if_pos rfl]) Fr.rf hC)
theorem c_toldX {w : Int32} (hC : CI m A) (ho : w.toInt < 0 ∨ 3 < w.toInt) (h : ∀ m', Fr 1 53 m m' → CI m' (r_told A w).2 → K (r_told A w).1 m') : gCi X 99 [.ref 1, .int w] m K := by
  refine g_inI rfl ?_
  have h0 : ¬ w = 0 := fun z => by rw [z] at ho; exact absurd ho (by decide)
  have h1 : ¬ w = 1 := fun z => by rw [z] at ho; exact absurd ho (by decide)
  have h2 : ¬ w = 2 := fun z => by rw [z] at ho; exact absurd ho (by decide)
  have h3 : ¬ w = 3 := fun z => by rw [z] at ho; exact absurd ho (by decide)
  refine g_iload_n (pc' := 1) rfl rfl rfl ?_
  skip
  refine g_tabO (pc' := 64) rfl ho rfl ?_
  refine g_iload_n (pc' := 65) rfl rfl rfl ?_
  refine g_bipush (pc' := 67) (v := 10) rfl rfl (by decide) ?_
  refine g_bipush (pc' := 69) (v := 59) rfl rfl (by decide) ?_
  refine g_calli (pc' := 72) rfl rfl rfl rfl (Or.inl rfl) ?_
  refine c_isWithin (fun u1 u2 => ?_) (fun u0 => ?_)
  · refine g_if_eq (pc' := 75) (t := 95) rfl rfl rfl (fun c => absurd c (by decide)) (fun _ => ?_)
    obtain ⟨k, hk, e⟩ := i_rng (a := 10) (b := 59) rfl rfl (by decide) (by decide) u1 u2
    have er : r_told A w = (traitV (aS A) ((10 + k) % 10) ((10 + k) / 10 - 1), A) := by unfold r_told; rw [if_neg h0, if_neg h1, if_neg h2, if_neg h3, if_pos ⟨u1, u2⟩, e, ix_nI (by omega)]
    subst e
    refine g_aload_n (pc' := 76) rfl rfl rfl ?_
    refine g_getr (pc' := 79) rfl rfl (f_10_0) ?_
    refine g_iload_n (pc' := 80) rfl rfl rfl ?_
    refine g_bipush (pc' := 82) (v := 10) rfl rfl (by decide) ?_
    refine g_irem (pc' := 83) rfl rfl (by decide) ?_
    refine g_vi (y := nI ((10 + k) % 10)) (i_rem (by omega) (by decide) (by decide)) ?_
    refine g_iload_n (pc' := 84) rfl rfl rfl ?_
    refine g_bipush (pc' := 86) (v := 10) rfl rfl (by decide) ?_
    refine g_idiv (pc' := 87) rfl rfl (by decide) ?_
    refine g_vi (y := nI ((10 + k) / 10)) (i_div (by omega) (by decide) (by decide)) ?_
    refine g_iconst (pc' := 88) (v := 1) rfl rfl (by decide) ?_
    refine g_isub (pc' := 89) rfl rfl ?_
    refine g_vi (y := nI ((10 + k) / 10 - 1)) (pk_sub (a := (10 + k) / 10) (b := 1) (by omega)) ?_
    refine g_calli (pc' := 92) rfl rfl rfl rfl (Or.inr (rc_S isS_2)) ?_
    refine c_traitOf isS_2 (Nat.mod_lt _ (by decide)) (by omega) ?_
    refine g_goto (pc' := 97) rfl rfl ?_
    exact g_ireturn rfl rfl (g_eq (cf h er Fr.rf hC) (by rw [hC.1]) rfl)
  · refine g_if_eq (pc' := 75) (t := 95) rfl rfl rfl (fun _ => ?_) (fun c => absurd c (by decide))
    refine g_bipush (pc' := 97) (v := -2) rfl rfl (by decide) ?_
    exact g_ireturn rfl rfl (cf h (by unfold r_told; rw [if_neg h0, if_neg h1, if_neg h2, if_neg h3, if_neg u0]) Fr.rf hC)
theorem c_told {w : Int32} (hC : CI m A) (h : ∀ m', Fr 1 53 m m' → CI m' (r_told A w).2 → K (r_told A w).1 m') : gCi X 99 [.ref 1, .int w] m K := by
  by_cases ho : w.toInt < 0 ∨ 3 < w.toInt
  · exact c_toldX hC ho h
  · have h0 : 0 ≤ w := by
      rw [Int32.le_iff_toInt_le]
      have : (0 : Int32).toInt = 0 := by decide
      omega
    have h3 : w ≤ 3 := by
      rw [Int32.le_iff_toInt_le]
      have : (3 : Int32).toInt = 3 := by decide
      omega
    obtain ⟨j, hj, e⟩ := i_in (n := 3) (by decide) h0 h3
    rcases (show j = 0 ∨ j = 1 ∨ j = 2 ∨ j = 3 by omega) with rfl | rfl | rfl | rfl
    · subst e; exact c_told0 hC h
    · subst e; exact c_told1 hC h
    · subst e; exact c_told2 hC h
    · subst e; exact c_told3 hC h
end C9
