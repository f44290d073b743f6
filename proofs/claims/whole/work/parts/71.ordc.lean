/-! ORDERS: the class -/
def WT (T : aSg) : Prop := T.1 = nI (ix T.1) ∧ ix T.1 ≤ 8 ∧ ∀ k, k < ix T.1 → T.2.1 k = nI (ix (T.2.1 k)) ∧ T.2.2 k = nI (ix (T.2.2 k)) ∧ ix (T.2.1 k) < 5 ∧ ix (T.2.2 k) < 5 ∧ ix (T.2.1 k) ≠ ix (T.2.2 k)
def fitN (T : aSg) (i n : Nat) : Prop := ∀ k, k < n → plO i (ix (T.2.1 k)) ≤ plO i (ix (T.2.2 k))
abbrev fitO (T : aSg) (i : Nat) : Prop := ∀ k, k < ix T.1 → plO i (ix (T.2.1 k)) ≤ plO i (ix (T.2.2 k))
def PL (m : aMem) (q i : Nat) : Prop := ∀ u, u < 5 → m.1 q u = nI (plO i u)
def coS (T : aSg) (i a : Nat) : Nat := if fitO T i then a + 1 else a
def coN (T : aSg) (i : Nat) : Nat := fN (coS T) i 0
theorem coN_le (T : aSg) : ∀ i, coN T i ≤ i
  | 0 => Nat.le_refl _
  | i + 1 => by
    have := coN_le T i
    show coS T i (coN T i) ≤ i + 1
    unfold coS
    split <;> omega
theorem co_p {T : aSg} {i : Nat} (h : fitO T i) : coN T (i + 1) = coN T i + 1 := by
  show coS T i (coN T i) = _
  unfold coS
  rw [if_pos h]
theorem co_q {T : aSg} {i : Nat} (h : ¬ fitO T i) : coN T (i + 1) = coN T i := by
  show coS T i (coN T i) = _
  unfold coS
  rw [if_neg h]
/-- the x-th order that fits, from i on, c before -/
def fdO (T : aSg) (x : Int32) : Nat → Nat → Nat → Int32
  | 0, _, _ => -6
  | d + 1, i, c => if fitO T i then (if nI c = x then nI (rowN i) else fdO T x d (i + 1) (c + 1)) else fdO T x d (i + 1) c
def r_orders (A : aA) (x : Int32) : Int32 × aA := (if x = -1 then nI (coN (aT A) 120) else fdO (aT A) x 120 0 0, A)
section O1
variable {X : aX} {m : aMem} {A : aA} {K : Int32 → aMem → Prop}
theorem c_unAhead {i p : Nat} (hi : i < 120) (hp : p < 5) (h : K (nI (uA i p)) m) : gCi X 23 [.int (nI i), .int (nI p)] m K := by
  refine g_inI rfl ?_
  refine g_iload_n (pc' := 1) rfl rfl rfl ?_
  rcases (show p = 0 ∨ p = 1 ∨ p = 2 ∨ p = 3 ∨ p = 4 by omega) with rfl | rfl | rfl | rfl | rfl
  · refine g_tabI (pc' := 32) rfl (by decide) rfl rfl ?_
    refine g_iload_n (pc' := 33) rfl rfl rfl ?_
    refine g_bipush (pc' := 35) (v := 24) rfl rfl (by decide) ?_
    refine g_idiv (pc' := 36) rfl rfl (by decide) ?_
    refine g_vi (y := nI (i / 24)) (i_div (d := 24) (by omega) (by decide) (by decide)) ?_
    exact g_ireturn rfl rfl (h)
  · refine g_tabI (pc' := 37) rfl (by decide) rfl rfl ?_
    refine g_iload_n (pc' := 38) rfl rfl rfl ?_
    refine g_bipush (pc' := 40) (v := 6) rfl rfl (by decide) ?_
    refine g_idiv (pc' := 41) rfl rfl (by decide) ?_
    refine g_vi (y := nI (i / 6)) (i_div (d := 6) (by omega) (by decide) (by decide)) ?_
    refine g_iconst (pc' := 42) (v := 4) rfl rfl (by decide) ?_
    refine g_irem (pc' := 43) rfl rfl (by decide) ?_
    refine g_vi (y := nI (i / 6 % 4)) (i_rem (d := 4) (by omega) (by decide) (by decide)) ?_
    exact g_ireturn rfl rfl (h)
  · refine g_tabI (pc' := 44) rfl (by decide) rfl rfl ?_
    refine g_iload_n (pc' := 45) rfl rfl rfl ?_
    refine g_iconst (pc' := 46) (v := 2) rfl rfl (by decide) ?_
    refine g_idiv (pc' := 47) rfl rfl (by decide) ?_
    refine g_vi (y := nI (i / 2)) (i_div (d := 2) (by omega) (by decide) (by decide)) ?_
    refine g_iconst (pc' := 48) (v := 3) rfl rfl (by decide) ?_
    refine g_irem (pc' := 49) rfl rfl (by decide) ?_
    refine g_vi (y := nI (i / 2 % 3)) (i_rem (d := 3) (by omega) (by decide) (by decide)) ?_
    exact g_ireturn rfl rfl (h)
  · refine g_tabI (pc' := 50) rfl (by decide) rfl rfl ?_
    refine g_iload_n (pc' := 51) rfl rfl rfl ?_
    refine g_iconst (pc' := 52) (v := 2) rfl rfl (by decide) ?_
    refine g_irem (pc' := 53) rfl rfl (by decide) ?_
    refine g_vi (y := nI (i % 2)) (i_rem (d := 2) (by omega) (by decide) (by decide)) ?_
    exact g_ireturn rfl rfl (h)
  · refine g_tabO (pc' := 54) rfl (by decide) rfl ?_
    refine g_iconst (pc' := 55) (v := 0) rfl rfl (by decide) ?_
    exact g_ireturn rfl rfl (h)
theorem c_unNut {u a : Nat} (hu : u < 32) (ha : a < 5) (h : K (nI (uF u a 5 0 0)) m) : gCi X 24 [.int (nI u), .int (nI a)] m K := by
  refine g_inI rfl ?_
  have loop : ∀ (d i : Nat) (c : Nat), i + d = 5 → c ≤ i → uF u a d i c = uF u a 5 0 0 → gG X 24 4 [.int (nI u), .int (nI a), .int (nI c), .int (nI i)] [] m (fun r m' => ∃ v, r = some (.int v) ∧ K v m') := by
    intro d
    induction d with
    | zero =>
      intro i c hd hc hr
      have hi : i = 5 := by omega
      subst hi
      refine g_iload_n (pc' := 5) rfl rfl rfl ?_
      refine g_iconst (pc' := 6) (v := 5) rfl rfl (by decide) ?_
      refine g_icmp_ge (pc' := 9) (t := 33) rfl rfl rfl (fun c_6 => ?_) (fun c_6 => absurd (by decide) c_6)
      refine g_iconst (pc' := 34) (v := 0) rfl rfl (by decide) ?_
      exact g_ireturn rfl rfl (by rw [← hr] at h; exact h)
    | succ d ih =>
      intro i c hd hc hr
      have hlt : i < 5 := by omega
      refine g_iload_n (pc' := 5) rfl rfl rfl ?_
      refine g_iconst (pc' := 6) (v := 5) rfl rfl (by decide) ?_
      refine g_icmp_ge (pc' := 9) (t := 33) rfl rfl rfl (fun c_6 => absurd c_6 (nI_ge (b := 5) hlt (by decide))) (fun c_6 => ?_)
      refine g_iload_n (pc' := 10) rfl rfl rfl ?_
      refine g_iload_n (pc' := 11) rfl rfl rfl ?_
      refine g_ishr (pc' := 12) rfl rfl ?_
      refine g_iconst (pc' := 13) (v := 1) rfl rfl (by decide) ?_
      refine g_iand (pc' := 14) rfl rfl ?_
      refine g_if_ne (pc' := 17) (t := 27) rfl rfl rfl (fun c_14 => ?_) (fun c_14 => ?_)
      · have hb : u.testBit i = true := by
          by_cases z : u.testBit i = true
          · exact z
          · exact absurd ((o_9 u hu i hlt).mpr (by simpa using z)) c_14
        refine g_iinc (pc' := 30) (v := nI (i + 1)) rfl rfl rfl (nI_1 i) rfl ?_
        refine g_goto (pc' := 4) rfl rfl ?_
        exact ih (i + 1) c (by omega) (by omega) (by rw [← hr, uF, if_pos hb])
      · have hb : ¬ u.testBit i = true := by rw [(o_9 u hu i hlt).mp c_14]; decide
        refine g_iload_n (pc' := 18) rfl rfl rfl ?_
        refine g_iload_n (pc' := 19) rfl rfl rfl ?_
        refine g_icmp_ne (pc' := 22) (t := 24) rfl rfl rfl (fun c_19 => ?_) (fun c_19 => ?_)
        · refine g_iinc (pc' := 27) (v := nI (c + 1)) rfl rfl rfl (nI_1 c) rfl ?_
          refine g_iinc (pc' := 30) (v := nI (i + 1)) rfl rfl rfl (nI_1 i) rfl ?_
          refine g_goto (pc' := 4) rfl rfl ?_
          exact ih (i + 1) (c + 1) (by omega) (by omega) (by rw [← hr, uF, if_neg hb, if_neg (fun z => c_19 (by rw [z]))])
        · refine g_iload_n (pc' := 23) rfl rfl rfl ?_
          exact g_ireturn rfl rfl (by rw [← hr, uF, if_neg hb, if_pos ((nI_eq (by omega) (by omega)).mp c_19)] at h; exact h)
  refine g_iconst (pc' := 1) (v := 0) rfl rfl (by decide) ?_
  refine g_istore_n (pc' := 2) rfl rfl rfl ?_
  refine g_iconst (pc' := 3) (v := 0) rfl rfl (by decide) ?_
  refine g_istore_n (pc' := 4) rfl rfl rfl ?_
  exact loop 5 0 0 rfl (Nat.le_refl _) rfl
theorem c_lay {j : Nat} (hj : j < 120) (h : ∀ m', Fr 28 29 m m' → PL m' 28 j → K (nI (rowN j)) m') : gCi X 22 [.ref 27, .int (nI j)] m K := by
  refine g_inI rfl ?_
  have loop : ∀ (d i : Nat) (m1 : aMem) (v5 : Value), i + d = 5 → Fr 28 29 m m1 → (∀ q, q < i → m1.1 28 (nu j q) = nI q) → gG X 22 7 [.ref 27, .int (nI j), .int (nI (us j i)), .int (nI (nb j i)), .int (nI i), v5] [] m1 (fun r m' => ∃ v, r = some (.int v) ∧ K v m') := by
    intro d
    induction d with
    | zero =>
      intro i m1 v5 hd hF hP
      have hi : i = 5 := by omega
      subst hi
      refine g_iload (pc' := 9) rfl rfl rfl ?_
      refine g_iconst (pc' := 10) (v := 5) rfl rfl (by decide) ?_
      refine g_icmp_ge (pc' := 13) (t := 55) rfl rfl rfl (fun c_10 => ?_) (fun c_10 => absurd (by decide) c_10)
      refine g_iload_n (pc' := 56) rfl rfl rfl ?_
      exact g_ireturn rfl rfl (h m1 hF (fun u hu => by
            have z := o_2 j hj u hu
            have y := hP (plO j u) z.2
            rw [z.1] at y
            exact y))
    | succ d ih =>
      intro i m1 v5 hd hF hP
      have hlt : i < 5 := by omega
      have o1 := o_1 j hj i hlt
      refine g_iload (pc' := 9) rfl rfl rfl ?_
      refine g_iconst (pc' := 10) (v := 5) rfl rfl (by decide) ?_
      refine g_icmp_ge (pc' := 13) (t := 55) rfl rfl rfl (fun c_10 => absurd c_10 (nI_ge (b := 5) hlt (by decide))) (fun c_10 => ?_)
      refine g_iload_n (pc' := 14) rfl rfl rfl ?_
      refine g_iload_n (pc' := 15) rfl rfl rfl ?_
      refine g_iload (pc' := 17) rfl rfl rfl ?_
      refine g_calli (pc' := 20) rfl rfl rfl rfl (Or.inl rfl) ?_
      refine c_unAhead hj hlt ?_
      refine g_calli (pc' := 23) rfl rfl rfl rfl (Or.inl rfl) ?_
      refine c_unNut o1.2.2.1 o1.2.2.2.1 ?_
      rw [o1.1]
      refine g_istore (pc' := 25) rfl rfl rfl ?_
      refine g_aload_n (pc' := 26) rfl rfl rfl ?_
      refine g_getr (pc' := 29) rfl rfl (f_3_0) ?_
      refine g_iload (pc' := 31) rfl rfl rfl ?_
      refine g_iload (pc' := 33) rfl rfl rfl ?_
      refine g_iast (pc' := 34) rfl rfl (a_28) (k := nu j i) (by omega) rfl ?_
      refine g_iload_n (pc' := 35) rfl rfl rfl ?_
      refine g_iconst (pc' := 36) (v := 1) rfl rfl (by decide) ?_
      refine g_iload (pc' := 38) rfl rfl rfl ?_
      refine g_ishl (pc' := 39) rfl rfl ?_
      refine g_ior (pc' := 40) rfl rfl ?_
      refine g_vi (y := nI (us j (i + 1))) (by rw [show (1 : Int32) <<< (nI (nu j i) &&& 31) = nI (2 ^ nu j i) from bit_nI (by omega), nI_or]; rfl) ?_
      refine g_istore_n (pc' := 41) rfl rfl rfl ?_
      refine g_bipush (pc' := 43) (v := 10) rfl rfl (by decide) ?_
      refine g_iload_n (pc' := 44) rfl rfl rfl ?_
      refine g_imul (pc' := 45) rfl rfl ?_
      refine g_vi (y := nI (10 * nb j i)) (pk_mul 10 _) ?_
      refine g_iload (pc' := 47) rfl rfl rfl ?_
      refine g_iadd (pc' := 48) rfl rfl ?_
      refine g_vi (y := nI (nb j (i + 1))) (nI_add _ _) ?_
      refine g_istore_n (pc' := 49) rfl rfl rfl ?_
      refine g_iinc (pc' := 52) (v := nI (i + 1)) rfl rfl rfl (nI_1 i) rfl ?_
      refine g_goto (pc' := 7) rfl rfl ?_
      exact ih (i + 1) _ _ (by omega) (hF.s (by omega) (by omega)) (fun q hq => by
        show am_wi m1.1 28 (nu j i) (nI i) 28 (nu j q) = _
        rw [am_wi_s]
        by_cases e : q = i
        · rw [e, upd_at]
        · rw [upd_ne (o1.2.2.2.2 q (by omega))]; exact hP q (by omega))
  refine g_iconst (pc' := 1) (v := 0) rfl rfl (by decide) ?_
  refine g_istore_n (pc' := 2) rfl rfl rfl ?_
  refine g_iconst (pc' := 3) (v := 0) rfl rfl (by decide) ?_
  refine g_istore_n (pc' := 4) rfl rfl rfl ?_
  refine g_iconst (pc' := 5) (v := 0) rfl rfl (by decide) ?_
  refine g_istore (pc' := 7) rfl rfl rfl ?_
  exact loop 5 0 m _ rfl Fr.rf (fun q hq => absurd hq (Nat.not_lt_zero _))
theorem c_fit {T : aSg} {j : Nat} (hj : j < 120) (hT : sgAt m 24 = T) (hW : WT T) (hP : PL m 28 j) (h1 : fitO T j → K 1 m) (h0 : ¬ fitO T j → K 0 m) : gCi X 47 [.ref 24, .ref 28] m K := by
  refine g_inI rfl ?_
  obtain ⟨w1, w2, w3⟩ := hW
  have e0 : m.1 24 2 = nI (ix T.1) := by rw [← w1, ← hT]; rfl
  have e1 : ∀ k, k < ix T.1 → m.1 (24 + 1) k = nI (ix (T.2.1 k)) := fun k hk => by rw [← (w3 k hk).1, ← hT]; exact (cut_at (by omega)).symm
  have e2 : ∀ k, k < ix T.1 → m.1 (24 + 2) k = nI (ix (T.2.2 k)) := fun k hk => by rw [← (w3 k hk).2.1, ← hT]; exact (cut_at (by omega)).symm
  have loop : ∀ (d i : Nat), i + d = ix T.1 → fitN T j i → gG X 47 2 [.ref 24, .ref 28, .int (nI i)] [] m (fun r m' => ∃ v, r = some (.int v) ∧ K v m') := by
    intro d
    induction d with
    | zero =>
      intro i hd hf
      have hi : i = ix T.1 := by omega
      have hi2 : ix T.1 ≤ i := by omega
      rw [hi] at hf
      refine g_iload_n (pc' := 3) rfl rfl rfl ?_
      refine g_aload_n (pc' := 4) rfl rfl rfl ?_
      refine g_geti (pc' := 7) rfl rfl (i_7_2 isT_24) ?_
      refine g_vi (y := nI (ix T.1)) (e0) ?_
      refine g_icmp_ge (pc' := 10) (t := 37) rfl rfl rfl (fun c_7 => ?_) (fun c_7 => absurd (nI_le hi2 (by omega)) c_7)
      refine g_iconst (pc' := 38) (v := 1) rfl rfl (by decide) ?_
      exact g_zreturn rfl rfl (by decide) (h1 hf)
    | succ d ih =>
      intro i hd hf
      have hlt : i < ix T.1 := by omega
      obtain ⟨q1, q2, q3, q4, q5⟩ := w3 i hlt
      refine g_iload_n (pc' := 3) rfl rfl rfl ?_
      refine g_aload_n (pc' := 4) rfl rfl rfl ?_
      refine g_geti (pc' := 7) rfl rfl (i_7_2 isT_24) ?_
      refine g_vi (y := nI (ix T.1)) (e0) ?_
      refine g_icmp_ge (pc' := 10) (t := 37) rfl rfl rfl (fun c_7 => absurd c_7 (nI_ge hlt (by omega))) (fun c_7 => ?_)
      refine g_aload_n (pc' := 11) rfl rfl rfl ?_
      refine g_aload_n (pc' := 12) rfl rfl rfl ?_
      refine g_getr (pc' := 15) rfl rfl (f_7_0 isT_24) ?_
      refine g_iload_n (pc' := 16) rfl rfl rfl ?_
      refine g_iald (pc' := 17) rfl rfl (a_T1 isT_24) (k := i) (by omega) rfl ?_
      refine g_vi (y := nI (ix (T.2.1 i))) (e1 i hlt) ?_
      refine g_iald (pc' := 18) rfl rfl (a_28) (k := ix (T.2.1 i)) (by omega) rfl ?_
      refine g_vi (y := nI (plO j (ix (T.2.1 i)))) (hP _ q3) ?_
      refine g_aload_n (pc' := 19) rfl rfl rfl ?_
      refine g_aload_n (pc' := 20) rfl rfl rfl ?_
      refine g_getr (pc' := 23) rfl rfl (f_7_1 isT_24) ?_
      refine g_iload_n (pc' := 24) rfl rfl rfl ?_
      refine g_iald (pc' := 25) rfl rfl (a_T2 isT_24) (k := i) (by omega) rfl ?_
      refine g_vi (y := nI (ix (T.2.2 i))) (e2 i hlt) ?_
      refine g_iald (pc' := 26) rfl rfl (a_28) (k := ix (T.2.2 i)) (by omega) rfl ?_
      refine g_vi (y := nI (plO j (ix (T.2.2 i)))) (hP _ q4) ?_
      refine g_icmp_le (pc' := 29) (t := 31) rfl rfl rfl (fun c_26 => ?_) (fun c_26 => ?_)
      · refine g_iinc (pc' := 34) (v := nI (i + 1)) rfl rfl rfl (nI_1 i) rfl ?_
        refine g_goto (pc' := 2) rfl rfl ?_
        exact ih (i + 1) (by omega) (fun k hk => by
          by_cases e : k = i
          · rw [e]; exact (nI_leI (by have := (o_2 j hj _ q3).2; omega) (by have := (o_2 j hj _ q4).2; omega)).mp c_26
          · exact hf k (by omega))
      · refine g_iconst (pc' := 30) (v := 0) rfl rfl (by decide) ?_
        exact g_zreturn rfl rfl (by decide) (h0 (fun z => c_26 (nI_le (z i hlt) (by have := (o_2 j hj _ q4).2; omega))))
  refine g_iconst (pc' := 1) (v := 0) rfl rfl (by decide) ?_
  refine g_istore_n (pc' := 2) rfl rfl rfl ?_
  exact loop (ix T.1) 0 (by omega) (fun k hk => absurd hk (Nat.not_lt_zero _))
theorem c_count {T : aSg} (hT : sgAt m 24 = T) (hW : WT T) (h : ∀ m', Fr 28 29 m m' → K (nI (coN T 120)) m') : gCi X 17 [.ref 27, .ref 24] m K := by
  refine g_inI rfl ?_
  have loop : ∀ (d i : Nat) (m1 : aMem), i + d = 120 → Fr 28 29 m m1 → gG X 17 4 [.ref 27, .ref 24, .int (nI (coN T i)), .int (nI i)] [] m1 (fun r m' => ∃ v, r = some (.int v) ∧ K v m') := by
    intro d
    induction d with
    | zero =>
      intro i m1 hd hF
      have hi : i = 120 := by omega
      subst hi
      refine g_iload_n (pc' := 5) rfl rfl rfl ?_
      refine g_bipush (pc' := 7) (v := 120) rfl rfl (by decide) ?_
      refine g_icmp_ge (pc' := 10) (t := 36) rfl rfl rfl (fun c_7 => ?_) (fun c_7 => absurd (by decide) c_7)
      refine g_iload_n (pc' := 37) rfl rfl rfl ?_
      exact g_ireturn rfl rfl (h m1 hF)
    | succ d ih =>
      intro i m1 hd hF
      have hlt : i < 120 := by omega
      refine g_iload_n (pc' := 5) rfl rfl rfl ?_
      refine g_bipush (pc' := 7) (v := 120) rfl rfl (by decide) ?_
      refine g_icmp_ge (pc' := 10) (t := 36) rfl rfl rfl (fun c_7 => absurd c_7 (nI_ge (b := 120) hlt (by decide))) (fun c_7 => ?_)
      refine g_aload_n (pc' := 11) rfl rfl rfl ?_
      refine g_iload_n (pc' := 12) rfl rfl rfl ?_
      refine g_calli (pc' := 15) rfl rfl rfl rfl (Or.inr rfl) ?_
      refine c_lay hlt (fun m2 f2 p2 => ?_)
      refine g_pop (pc' := 16) rfl rfl rfl ?_
      refine g_aload_n (pc' := 17) rfl rfl rfl ?_
      refine g_aload_n (pc' := 18) rfl rfl rfl ?_
      refine g_getr (pc' := 21) rfl rfl (f_3_0) ?_
      refine g_calli (pc' := 24) rfl rfl rfl rfl (Or.inr (rc_T isT_24)) ?_
      refine c_fit (T := T) hlt ((f2.sg (p := 24) (by omega)).trans ((hF.sg (p := 24) (by omega)).trans hT)) hW p2 (fun q => ?_) (fun q => ?_)
      · refine g_if_eq (pc' := 27) (t := 30) rfl rfl rfl (fun c => absurd c (by decide)) (fun _ => ?_)
        refine g_iinc (pc' := 30) (v := nI (coN T i + 1)) rfl rfl rfl (nI_1 _) rfl ?_
        refine g_iinc (pc' := 33) (v := nI (i + 1)) rfl rfl rfl (nI_1 i) rfl ?_
        refine g_goto (pc' := 4) rfl rfl ?_
        have hh := ih (i + 1) m2 (by omega) (hF.tr f2)
        rw [co_p q] at hh
        exact hh
      · refine g_if_eq (pc' := 27) (t := 30) rfl rfl rfl (fun _ => ?_) (fun c => absurd c (by decide))
        refine g_iinc (pc' := 33) (v := nI (i + 1)) rfl rfl rfl (nI_1 i) rfl ?_
        refine g_goto (pc' := 4) rfl rfl ?_
        have hh := ih (i + 1) m2 (by omega) (hF.tr f2)
        rw [co_q q] at hh
        exact hh
  refine g_iconst (pc' := 1) (v := 0) rfl rfl (by decide) ?_
  refine g_istore_n (pc' := 2) rfl rfl rfl ?_
  refine g_iconst (pc' := 3) (v := 0) rfl rfl (by decide) ?_
  refine g_istore_n (pc' := 4) rfl rfl rfl ?_
  exact loop 120 0 m rfl Fr.rf
theorem c_find {T : aSg} {x : Int32} (hT : sgAt m 24 = T) (hW : WT T) (h : ∀ m', Fr 28 29 m m' → K (fdO T x 120 0 0) m') : gCi X 18 [.ref 27, .ref 24, .int x] m K := by
  refine g_inI rfl ?_
  have loop : ∀ (d i : Nat) (m1 : aMem) (c : Nat) (v5 : Value), i + d = 120 → fdO T x d i c = fdO T x 120 0 0 → Fr 28 29 m m1 → gG X 18 5 [.ref 27, .ref 24, .int x, .int (nI c), .int (nI i), v5] [] m1 (fun r m' => ∃ v, r = some (.int v) ∧ K v m') := by
    intro d
    induction d with
    | zero =>
      intro i m1 c v5 hd hr hF
      have hi : i = 120 := by omega
      subst hi
      refine g_iload (pc' := 7) rfl rfl rfl ?_
      refine g_bipush (pc' := 9) (v := 120) rfl rfl (by decide) ?_
      refine g_icmp_ge (pc' := 12) (t := 48) rfl rfl rfl (fun c_9 => ?_) (fun c_9 => absurd (by decide) c_9)
      refine g_bipush (pc' := 50) (v := -6) rfl rfl (by decide) ?_
      exact g_ireturn rfl rfl (g_eq (h m1 hF) (by rw [← hr]; rfl) rfl)
    | succ d ih =>
      intro i m1 c v5 hd hr hF
      have hlt : i < 120 := by omega
      refine g_iload (pc' := 7) rfl rfl rfl ?_
      refine g_bipush (pc' := 9) (v := 120) rfl rfl (by decide) ?_
      refine g_icmp_ge (pc' := 12) (t := 48) rfl rfl rfl (fun c_9 => absurd c_9 (nI_ge (b := 120) hlt (by decide))) (fun c_9 => ?_)
      refine g_aload_n (pc' := 13) rfl rfl rfl ?_
      refine g_iload (pc' := 15) rfl rfl rfl ?_
      refine g_calli (pc' := 18) rfl rfl rfl rfl (Or.inr rfl) ?_
      refine c_lay hlt (fun m2 f2 p2 => ?_)
      refine g_istore (pc' := 20) rfl rfl rfl ?_
      refine g_aload_n (pc' := 21) rfl rfl rfl ?_
      refine g_aload_n (pc' := 22) rfl rfl rfl ?_
      refine g_getr (pc' := 25) rfl rfl (f_3_0) ?_
      refine g_calli (pc' := 28) rfl rfl rfl rfl (Or.inr (rc_T isT_24)) ?_
      refine c_fit (T := T) hlt ((f2.sg (p := 24) (by omega)).trans ((hF.sg (p := 24) (by omega)).trans hT)) hW p2 (fun q => ?_) (fun q => ?_)
      · refine g_if_eq (pc' := 31) (t := 42) rfl rfl rfl (fun c => absurd c (by decide)) (fun _ => ?_)
        refine g_iload_n (pc' := 32) rfl rfl rfl ?_
        refine g_iload_n (pc' := 33) rfl rfl rfl ?_
        refine g_icmp_ne (pc' := 36) (t := 39) rfl rfl rfl (fun c_33 => ?_) (fun c_33 => ?_)
        · refine g_iinc (pc' := 42) (v := nI (c + 1)) rfl rfl rfl (nI_1 _) rfl ?_
          refine g_iinc (pc' := 45) (v := nI (i + 1)) rfl rfl rfl (nI_1 i) rfl ?_
          refine g_goto (pc' := 5) rfl rfl ?_
          exact ih (i + 1) m2 (c + 1) _ (by omega) (by rw [← hr, fdO, if_pos q, if_neg c_33]) (hF.tr f2)
        · refine g_iload (pc' := 38) rfl rfl rfl ?_
          exact g_ireturn rfl rfl (g_eq (h m2 (hF.tr f2)) (by rw [← hr, fdO, if_pos q, if_pos c_33]) rfl)
      · refine g_if_eq (pc' := 31) (t := 42) rfl rfl rfl (fun _ => ?_) (fun c => absurd c (by decide))
        refine g_iinc (pc' := 45) (v := nI (i + 1)) rfl rfl rfl (nI_1 i) rfl ?_
        refine g_goto (pc' := 5) rfl rfl ?_
        exact ih (i + 1) m2 c _ (by omega) (by rw [← hr, fdO, if_neg q]) (hF.tr f2)
  refine g_iconst (pc' := 1) (v := 0) rfl rfl (by decide) ?_
  refine g_istore_n (pc' := 2) rfl rfl rfl ?_
  refine g_iconst (pc' := 3) (v := 0) rfl rfl (by decide) ?_
  refine g_istore (pc' := 5) rfl rfl rfl ?_
  exact loop 120 0 m 0 _ rfl rfl Fr.rf
theorem c_orders {x : Int32} (hC : CI m A) (hW : WT (aT A)) (h : ∀ m', Fr 1 53 m m' → CI m' (r_orders A x).2 → K (r_orders A x).1 m') : gCi X 92 [.ref 1, .int x] m K := by
  refine g_inI rfl ?_
  have et := hC.2.2.2.1
  refine g_iload_n (pc' := 1) rfl rfl rfl ?_
  refine g_iconst (pc' := 2) (v := -1) rfl rfl (by decide) ?_
  refine g_icmp_ne (pc' := 5) (t := 19) rfl rfl rfl (fun c_2 => ?_) (fun c_2 => ?_)
  · refine g_aload_n (pc' := 20) rfl rfl rfl ?_
    refine g_getr (pc' := 23) rfl rfl (f_10_7) ?_
    refine g_aload_n (pc' := 24) rfl rfl rfl ?_
    refine g_getr (pc' := 27) rfl rfl (f_10_6) ?_
    refine g_iload_n (pc' := 28) rfl rfl rfl ?_
    refine g_calli (pc' := 31) rfl rfl rfl rfl (Or.inr rfl) ?_
    refine c_find et hW (fun m1 f1 => ?_)
    exact g_ireturn rfl rfl (cf h (by unfold r_orders; rw [if_neg c_2]) (f1.wide (by decide) (by decide)) (hC.fr f1 (by omega)))
  · refine g_aload_n (pc' := 6) rfl rfl rfl ?_
    refine g_getr (pc' := 9) rfl rfl (f_10_7) ?_
    refine g_aload_n (pc' := 10) rfl rfl rfl ?_
    refine g_getr (pc' := 13) rfl rfl (f_10_6) ?_
    refine g_calli (pc' := 16) rfl rfl rfl rfl (Or.inr rfl) ?_
    refine c_count et hW (fun m1 f1 => ?_)
    refine g_goto (pc' := 31) rfl rfl ?_
    exact g_ireturn rfl rfl (cf h (by unfold r_orders; rw [if_pos c_2]) (f1.wide (by decide) (by decide)) (hC.fr f1 (by omega)))
end O1
