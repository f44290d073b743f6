/-! sets as bits -/
theorem nI_or (a b : Nat) : nI a ||| nI b = nI (a ||| b) := by
  apply Int32.toBitVec_inj.mp
  show BitVec.ofNat 32 a ||| BitVec.ofNat 32 b = BitVec.ofNat 32 (a ||| b)
  rw [BitVec.ofNat_or]
theorem nI_and (a b : Nat) : nI a &&& nI b = nI (a &&& b) := by
  apply Int32.toBitVec_inj.mp
  show BitVec.ofNat 32 a &&& BitVec.ofNat 32 b = BitVec.ofNat 32 (a &&& b)
  rw [BitVec.ofNat_and]
theorem sh_k : ∀ k, k < 32 → ((nI k &&& 31).toBitVec.smod 32).toNat = k := by decide +kernel
theorem bit_nI {k : Nat} (h : k < 31) : bit k = nI (2 ^ k) := by
  unfold bit
  rw [show (1 : Int32) = nI 1 from rfl, pk_shlN _ k (sh_k k (by omega)) (by have := Nat.pow_lt_pow_right (a := 2) (by decide) (show k < 32 by omega); omega), Nat.one_mul]
theorem shr_nI {v k : Nat} (hv : v < 2 ^ 31) (hk : k < 32) : nI v >>> (nI k &&& 31) = nI (v / 2 ^ k) := pk_shrN hv _ k (sh_k k hk)
theorem has_nI {v k : Nat} (hv : v < 2 ^ 31) (hk : k < 32) : ((nI v >>> (nI k &&& 31)) &&& 1 = 1) ↔ v.testBit k = true := by
  rw [shr_nI hv hk, show (1 : Int32) = nI 1 from rfl, nI_and, Nat.and_one_is_mod, nI_eq (by omega) (by decide), Nat.testBit_eq_decide_div_mod_eq, decide_eq_true_eq]
def mk (P : Nat → Bool) : Nat → Nat
  | 0 => 0
  | n + 1 => if P n = true then mk P n ||| 2 ^ n else mk P n
theorem mk_lt (P : Nat → Bool) : ∀ n, mk P n < 2 ^ n
  | 0 => Nat.zero_lt_one
  | n + 1 => by
    unfold mk
    have h := mk_lt P n
    split
    · exact Nat.or_lt_two_pow (by rw [Nat.pow_succ]; omega) (Nat.pow_lt_pow_right (by decide) (by omega))
    · rw [Nat.pow_succ]; omega
theorem mk_bit (P : Nat → Bool) (k : Nat) : ∀ n, (mk P n).testBit k = (decide (k < n) && P k)
  | 0 => by simp [mk]
  | n + 1 => by
    unfold mk
    split
    · next h =>
      rw [Nat.testBit_or, mk_bit P k n, Nat.testBit_two_pow]
      by_cases e : n = k
      · subst e; simp [h]
      · by_cases e2 : k < n
        · simp [e, e2, show k < n + 1 by omega]
        · simp [e, e2, show ¬ k < n + 1 by omega]
    · next h =>
      rw [mk_bit P k n]
      by_cases e : k = n
      · subst e; simp at h; simp [h]
      · by_cases e2 : k < n
        · simp [e2, show k < n + 1 by omega]
        · simp [e2, show ¬ k < n + 1 by omega]
theorem mk_fN (P : Nat → Prop) (D : ∀ k, Decidable (P k)) : ∀ n, n ≤ 30 → fN (fun k a => if P k then a ||| bit k else a) n 0 = nI (mk (fun k => decide (P k)) n)
  | 0, _ => rfl
  | n + 1, h => by
    unfold fN mk
    rw [mk_fN P D n (by omega)]
    by_cases hp : P n
    · rw [if_pos hp, if_pos (by simpa using hp), bit_nI (by omega), nI_or]
    · rw [if_neg hp, if_neg (by simpa using hp)]
theorem nutsB_mk (s : aStr) (c : Int32) : nutsB s c = nI (mk (fun k => decide (sO s k = c ∧ ¬ sC s k = 3)) 10) := mk_fN (fun k => sO s k = c ∧ ¬ sC s k = 3) _ 10 (by decide)
section M2
variable {X : aX} {m : aMem}
theorem x54 {i : Nat} {v : Int32} : (am_wi m.1 54 i v, m.2).1 53 = m.1 53 := by show am_wi m.1 54 i v 53 = m.1 53; rw [am_wi_n (by decide)]
theorem x55 {i : Nat} {v : Int32} : (am_wi m.1 55 i v, m.2).1 53 = m.1 53 := by show am_wi m.1 55 i v 53 = m.1 53; rw [am_wi_n (by decide)]
theorem x56 {i : Nat} {v : Int32} : (am_wi m.1 56 i v, m.2).1 53 = m.1 53 := by show am_wi m.1 56 i v 53 = m.1 53; rw [am_wi_n (by decide)]
theorem x57 {i : Nat} {v : Int32} : (am_wi m.1 57 i v, m.2).1 53 = m.1 53 := by show am_wi m.1 57 i v 53 = m.1 53; rw [am_wi_n (by decide)]
theorem x58 {i : Nat} {v : Int32} : (am_wi m.1 58 i v, m.2).1 53 = m.1 53 := by show am_wi m.1 58 i v 53 = m.1 53; rw [am_wi_n (by decide)]
theorem d_has {K : Int32 → aMem → Prop} {v k : Nat} (hv : v < 2 ^ 31) (hk : k < 32) (h1 : v.testBit k = true → K 1 m) (h0 : v.testBit k = false → K 0 m) : gCi X 110 [.int (nI v), .int (nI k)] m K := by
  refine g_inI rfl ?_
  refine g_iload_n (pc' := 1) rfl rfl rfl ?_
  refine g_iload_n (pc' := 2) rfl rfl rfl ?_
  refine g_ishr (pc' := 3) rfl rfl ?_
  refine g_iconst (pc' := 4) (v := 1) rfl rfl (by decide) ?_
  refine g_iand (pc' := 5) rfl rfl ?_
  refine g_iconst (pc' := 6) (v := 1) rfl rfl (by decide) ?_
  refine g_icmp_ne (pc' := 9) (t := 13) rfl rfl rfl (fun c_6 => ?_) (fun c_6 => ?_)
  · refine g_iconst (pc' := 14) (v := 0) rfl rfl (by decide) ?_
    exact g_zreturn rfl rfl (by decide) (h0 (Bool.eq_false_iff.mpr (fun z => c_6 ((has_nI hv hk).mpr z))))
  · refine g_iconst (pc' := 10) (v := 1) rfl rfl (by decide) ?_
    refine g_goto (pc' := 14) rfl rfl ?_
    exact g_zreturn rfl rfl (by decide) (h1 ((has_nI hv hk).mp c_6))
theorem d_scoresOf {K : Int32 → aMem → Prop} {c : Int32} (h : K (scoresB (stAt m 53) c) m) : gCi X 137 [.ref 53, .int c] m K := by
  refine g_inI rfl ?_
  have loop : ∀ (d i : Nat) (acc : Int32), i + d = 10 → acc = fN (fun k a => if sO (stAt m 53) k = c ∧ ¬ sC (stAt m 53) k = 3 then a + sS (stAt m 53) k else a) i 0 → gG X 137 4 [.ref 53, .int c, .int acc, .int (nI i)] [] m (fun r m' => ∃ v, r = some (.int v) ∧ K v m') := by
    intro d
    induction d with
    | zero =>
      intro i acc hd ha
      have hi : i = 10 := by omega
      subst hi
      refine g_iload_n (pc' := 5) rfl rfl rfl ?_
      refine g_bipush (pc' := 7) (v := 10) rfl rfl (by decide) ?_
      refine g_icmp_ge (pc' := 10) (t := 41) rfl rfl rfl (fun c_7 => ?_) (fun c_7 => absurd (by decide) c_7)
      refine g_iload_n (pc' := 42) rfl rfl rfl ?_
      exact g_ireturn rfl rfl (g_eq h ha rfl)
    | succ d ih =>
      intro i acc hd ha
      have hlt : i < 10 := by omega
      refine g_iload_n (pc' := 5) rfl rfl rfl ?_
      refine g_bipush (pc' := 7) (v := 10) rfl rfl (by decide) ?_
      refine g_icmp_ge (pc' := 10) (t := 41) rfl rfl rfl (fun c_7 => absurd c_7 (nI_ge (b := 10) hlt (by decide))) (fun c_7 => ?_)
      refine g_iload_n (pc' := 11) rfl rfl rfl ?_
      refine g_aload_n (pc' := 12) rfl rfl rfl ?_
      refine g_iload_n (pc' := 13) rfl rfl rfl ?_
      refine g_calli (pc' := 16) rfl rfl rfl rfl (Or.inr rfl) ?_
      refine d_nutsOf ?_
      rw [nutsB_mk]
      refine g_iload_n (pc' := 17) rfl rfl rfl ?_
      refine g_calli (pc' := 20) rfl rfl rfl rfl (Or.inl rfl) ?_
      refine d_has (v := (mk (fun k => decide (sO (stAt m 53) k = c ∧ ¬ sC (stAt m 53) k = 3)) 10)) (by have := mk_lt (fun k => decide (sO (stAt m 53) k = c ∧ ¬ sC (stAt m 53) k = 3)) 10; omega) (by omega) (fun q => ?_) (fun q => ?_)
      · refine g_if_eq (pc' := 23) (t := 32) rfl rfl rfl (fun c => absurd c (by decide)) (fun _ => ?_)
        refine g_aload_n (pc' := 24) rfl rfl rfl ?_
        refine g_getr (pc' := 27) rfl rfl (f_11_2) ?_
        refine g_iload_n (pc' := 28) rfl rfl rfl ?_
        refine g_iald (pc' := 29) rfl rfl (a_56) hlt rfl ?_
        refine g_vi (y := sS (stAt m 53) i) (r_S hlt) ?_
        refine g_goto (pc' := 33) rfl rfl ?_
        refine g_iadd (pc' := 34) rfl rfl ?_
        refine g_istore_n (pc' := 35) rfl rfl rfl ?_
        refine g_iinc (pc' := 38) (v := nI (i + 1)) rfl rfl rfl (nI_1 i) rfl ?_
        refine g_goto (pc' := 4) rfl rfl ?_
        rw [mk_bit] at q
        simp [hlt] at q
        exact ih (i + 1) _ (by omega) (by rw [ha]; show _ = if _ then _ else _; rw [if_pos q])
      · refine g_if_eq (pc' := 23) (t := 32) rfl rfl rfl (fun _ => ?_) (fun c => absurd c (by decide))
        refine g_iconst (pc' := 33) (v := 0) rfl rfl (by decide) ?_
        refine g_iadd (pc' := 34) rfl rfl ?_
        refine g_istore_n (pc' := 35) rfl rfl rfl ?_
        refine g_iinc (pc' := 38) (v := nI (i + 1)) rfl rfl rfl (nI_1 i) rfl ?_
        refine g_goto (pc' := 4) rfl rfl ?_
        rw [mk_bit] at q
        simp only [hlt, decide_true, Bool.true_and, decide_eq_false_iff_not] at q
        exact ih (i + 1) _ (by omega) (by rw [ha]; show _ = if _ then _ else _; rw [if_neg q, i_add0])
  refine g_iconst (pc' := 1) (v := 0) rfl rfl (by decide) ?_
  refine g_istore_n (pc' := 2) rfl rfl rfl ?_
  refine g_iconst (pc' := 3) (v := 0) rfl rfl (by decide) ?_
  refine g_istore_n (pc' := 4) rfl rfl rfl ?_
  exact loop 10 0 0 rfl rfl
theorem d_whyNoBlow {K : Int32 → aMem → Prop} {a b : Nat} (ha : a < 10) (hb : b < 10) (h : K (whyS (stAt m 53) 0 a b) m) : gCi X 121 [.ref 53, .int (nI a), .int (nI b)] m K := by
  refine g_inI rfl ?_
  refine g_aload_n (pc' := 1) rfl rfl rfl ?_
  refine g_iload_n (pc' := 2) rfl rfl rfl ?_
  refine g_calli (pc' := 5) rfl rfl rfl rfl (Or.inr rfl) ?_
  refine d_isBroken ha (fun qa => ?_) (fun qa => ?_)
  · refine g_if_ne (pc' := 8) (t := 16) rfl rfl rfl (fun _ => ?_) (fun c => absurd c (by decide))
    refine g_iconst (pc' := 17) (v := 1) rfl rfl (by decide) ?_
    refine g_goto (pc' := 45) rfl rfl ?_
    exact g_ireturn rfl rfl (g_eq h (by rw [whyS, if_neg (by decide), if_pos (Or.inl qa)]) rfl)
  · refine g_if_ne (pc' := 8) (t := 16) rfl rfl rfl (fun c => absurd c (by decide)) (fun _ => ?_)
    refine g_aload_n (pc' := 9) rfl rfl rfl ?_
    refine g_iload_n (pc' := 10) rfl rfl rfl ?_
    refine g_calli (pc' := 13) rfl rfl rfl rfl (Or.inr rfl) ?_
    refine d_isBroken hb (fun qb => ?_) (fun qb => ?_)
    · refine g_if_eq (pc' := 16) (t := 20) rfl rfl rfl (fun c => absurd c (by decide)) (fun _ => ?_)
      refine g_iconst (pc' := 17) (v := 1) rfl rfl (by decide) ?_
      refine g_goto (pc' := 45) rfl rfl ?_
      exact g_ireturn rfl rfl (g_eq h (by rw [whyS, if_neg (by decide), if_pos (Or.inr ⟨rfl, qb⟩)]) rfl)
    · refine g_if_eq (pc' := 16) (t := 20) rfl rfl rfl (fun _ => ?_) (fun c => absurd c (by decide))
      refine g_iload_n (pc' := 21) rfl rfl rfl ?_
      refine g_iload_n (pc' := 22) rfl rfl rfl ?_
      refine g_icmp_eq (pc' := 25) (t := 40) rfl rfl rfl (fun c_22 => ?_) (fun c_22 => ?_)
      · refine g_iconst (pc' := 41) (v := 2) rfl rfl (by decide) ?_
        refine g_goto (pc' := 45) rfl rfl ?_
        exact g_ireturn rfl rfl (g_eq h (by
              have e : a = b := (nI_eq (by omega) (by omega)).mp c_22
              rw [whyS, if_neg (by decide), if_neg (fun z => z.elim qa (fun w => qb w.2)), if_pos rfl, if_pos (by rw [e])]) rfl)
      · refine g_aload_n (pc' := 26) rfl rfl rfl ?_
        refine g_getr (pc' := 29) rfl rfl (f_11_3) ?_
        refine g_iload_n (pc' := 30) rfl rfl rfl ?_
        refine g_iald (pc' := 31) rfl rfl (a_57) ha rfl ?_
        refine g_vi (y := sO (stAt m 53) a) (r_O ha) ?_
        refine g_aload_n (pc' := 32) rfl rfl rfl ?_
        refine g_getr (pc' := 35) rfl rfl (f_11_3) ?_
        refine g_iload_n (pc' := 36) rfl rfl rfl ?_
        refine g_iald (pc' := 37) rfl rfl (a_57) hb rfl ?_
        refine g_vi (y := sO (stAt m 53) b) (r_O hb) ?_
        refine g_icmp_ne (pc' := 40) (t := 44) rfl rfl rfl (fun c_37 => ?_) (fun c_37 => ?_)
        · refine g_iconst (pc' := 45) (v := 0) rfl rfl (by decide) ?_
          exact g_ireturn rfl rfl (g_eq h (by rw [whyS, if_neg (by decide), if_neg (fun z => z.elim qa (fun w => qb w.2)), if_pos rfl, if_neg c_37]) rfl)
        · refine g_iconst (pc' := 41) (v := 2) rfl rfl (by decide) ?_
          refine g_goto (pc' := 45) rfl rfl ?_
          exact g_ireturn rfl rfl (g_eq h (by rw [whyS, if_neg (by decide), if_neg (fun z => z.elim qa (fun w => qb w.2)), if_pos rfl, if_pos c_37]) rfl)
theorem eq99 {x : Int32} (h : x ≤ 99) : x = 99 ↔ ¬ x < 99 := by
  rw [Int32.le_iff_toInt_le] at h
  rw [Int32.lt_iff_toInt_lt, ← Int32.toInt_inj]
  omega
theorem d_whyNot {K : Int32 → aMem → Prop} {kd a b : Nat} (hk : kd < 4) (ha : a < 10) (hb : kd = 0 → b < 10) (h99 : sH (stAt m 53) a ≤ 99) (hD : sD (stAt m 53) ≤ 99) (h : K (whyS (stAt m 53) kd a b) m) : gCi X 122 [.ref 53, .int (nI kd), .int (nI a), .int (nI b)] m K := by
  refine g_inI rfl ?_
  refine g_iload_n (pc' := 1) rfl rfl rfl ?_
  rcases (show kd = 0 ∨ kd = 1 ∨ kd = 2 ∨ kd = 3 by omega) with rfl | rfl | rfl | rfl
  · refine g_tabI (pc' := 28) rfl (by decide) rfl rfl ?_
    refine g_aload_n (pc' := 29) rfl rfl rfl ?_
    refine g_iload_n (pc' := 30) rfl rfl rfl ?_
    refine g_iload_n (pc' := 31) rfl rfl rfl ?_
    refine g_calli (pc' := 34) rfl rfl rfl rfl (Or.inr rfl) ?_
    refine d_whyNoBlow ha (hb rfl) ?_
    exact g_ireturn rfl rfl (h)
  · refine g_tabI (pc' := 35) rfl (by decide) rfl rfl ?_
    refine g_aload_n (pc' := 36) rfl rfl rfl ?_
    refine g_iload_n (pc' := 37) rfl rfl rfl ?_
    refine g_calli (pc' := 40) rfl rfl rfl rfl (Or.inr rfl) ?_
    refine d_isBroken ha (fun q => ?_) (fun q => ?_)
    · refine g_if_eq (pc' := 43) (t := 47) rfl rfl rfl (fun c => absurd c (by decide)) (fun _ => ?_)
      refine g_iconst (pc' := 44) (v := 1) rfl rfl (by decide) ?_
      refine g_goto (pc' := 63) rfl rfl ?_
      exact g_ireturn rfl rfl (g_eq h (by rw [whyS, if_neg (by decide), if_pos (Or.inl q)]) rfl)
    · refine g_if_eq (pc' := 43) (t := 47) rfl rfl rfl (fun _ => ?_) (fun c => absurd c (by decide))
      refine g_aload_n (pc' := 48) rfl rfl rfl ?_
      refine g_getr (pc' := 51) rfl rfl (f_11_0) ?_
      refine g_iload_n (pc' := 52) rfl rfl rfl ?_
      refine g_iald (pc' := 53) rfl rfl (a_54) ha rfl ?_
      refine g_vi (y := sH (stAt m 53) a) (r_H ha) ?_
      refine g_bipush (pc' := 55) (v := 99) rfl rfl (by decide) ?_
      refine g_icmp_ne (pc' := 58) (t := 62) rfl rfl rfl (fun c_55 => ?_) (fun c_55 => ?_)
      · refine g_iconst (pc' := 63) (v := 0) rfl rfl (by decide) ?_
        exact g_ireturn rfl rfl (g_eq h (by rw [whyS, if_neg (by decide), if_neg (fun z => z.elim q (fun w => absurd w.1 (by decide))), if_neg (by decide), if_pos rfl, if_pos (Classical.byContradiction (fun z => c_55 ((eq99 h99).mpr z)))]) rfl)
      · refine g_iconst (pc' := 59) (v := 3) rfl rfl (by decide) ?_
        refine g_goto (pc' := 63) rfl rfl ?_
        exact g_ireturn rfl rfl (g_eq h (by rw [whyS, if_neg (by decide), if_neg (fun z => z.elim q (fun w => absurd w.1 (by decide))), if_neg (by decide), if_pos rfl, if_neg ((eq99 h99).mp c_55)]) rfl)
  · refine g_tabI (pc' := 64) rfl (by decide) rfl rfl ?_
    refine g_aload_n (pc' := 65) rfl rfl rfl ?_
    refine g_iload_n (pc' := 66) rfl rfl rfl ?_
    refine g_calli (pc' := 69) rfl rfl rfl rfl (Or.inr rfl) ?_
    refine d_isBroken ha (fun q => ?_) (fun q => ?_)
    · refine g_if_eq (pc' := 72) (t := 76) rfl rfl rfl (fun c => absurd c (by decide)) (fun _ => ?_)
      refine g_iconst (pc' := 73) (v := 1) rfl rfl (by decide) ?_
      refine g_goto (pc' := 91) rfl rfl ?_
      exact g_ireturn rfl rfl (g_eq h (by rw [whyS, if_neg (by decide), if_pos (Or.inl q)]) rfl)
    · refine g_if_eq (pc' := 72) (t := 76) rfl rfl rfl (fun _ => ?_) (fun c => absurd c (by decide))
      refine g_aload_n (pc' := 77) rfl rfl rfl ?_
      refine g_getr (pc' := 80) rfl rfl (f_11_3) ?_
      refine g_iload_n (pc' := 81) rfl rfl rfl ?_
      refine g_iald (pc' := 82) rfl rfl (a_57) ha rfl ?_
      refine g_vi (y := sO (stAt m 53) a) (r_O ha) ?_
      refine g_iload_n (pc' := 83) rfl rfl rfl ?_
      refine g_icmp_ne (pc' := 86) (t := 90) rfl rfl rfl (fun c_83 => ?_) (fun c_83 => ?_)
      · refine g_iconst (pc' := 91) (v := 0) rfl rfl (by decide) ?_
        exact g_ireturn rfl rfl (g_eq h (by rw [whyS, if_neg (by decide), if_neg (fun z => z.elim q (fun w => absurd w.1 (by decide))), if_neg (by decide), if_neg (by decide), if_neg c_83]) rfl)
      · refine g_iconst (pc' := 87) (v := 4) rfl rfl (by decide) ?_
        refine g_goto (pc' := 91) rfl rfl ?_
        exact g_ireturn rfl rfl (g_eq h (by rw [whyS, if_neg (by decide), if_neg (fun z => z.elim q (fun w => absurd w.1 (by decide))), if_neg (by decide), if_neg (by decide), if_pos c_83]) rfl)
  · refine g_tabO (pc' := 92) rfl (by decide) rfl ?_
    refine g_aload_n (pc' := 93) rfl rfl rfl ?_
    refine g_geti (pc' := 96) rfl rfl (i_11_5) ?_
    refine g_vi (y := sD (stAt m 53)) (rfl) ?_
    refine g_bipush (pc' := 98) (v := 99) rfl rfl (by decide) ?_
    refine g_icmp_ne (pc' := 101) (t := 105) rfl rfl rfl (fun c_98 => ?_) (fun c_98 => ?_)
    · refine g_iconst (pc' := 106) (v := 0) rfl rfl (by decide) ?_
      exact g_ireturn rfl rfl (g_eq h (by rw [whyS, if_pos rfl, if_pos (Classical.byContradiction (fun z => c_98 ((eq99 hD).mpr z)))]) rfl)
    · refine g_iconst (pc' := 102) (v := 5) rfl rfl (by decide) ?_
      refine g_goto (pc' := 106) rfl rfl ?_
      exact g_ireturn rfl rfl (g_eq h (by rw [whyS, if_pos rfl, if_neg ((eq99 hD).mp c_98)]) rfl)
def bk (f : Nat → Int32) (v : Int32) : Nat → Int32 := if v = -6 then f else upd (upd f 15 v) 16 (f 16 + 1)
theorem bk_6 (f : Nat → Int32) : bk f (-6) = f := if_pos rfl
theorem bk_k {f : Nat → Int32} {k : Nat} (h : k < 1000) : bk f (nI k) = upd (upd f 15 (nI k)) 16 (f 16 + 1) := if_neg (nI_ne6 h)
variable {K : aMem → Prop}
theorem d_breakOne {k : Nat} (hk : k < 10) (h : ∀ m', Fr 53 59 m m' → stAt m' 53 = hurt (stAt m 53) k → m'.1 53 = bk (m.1 53) (if sC (hurt (stAt m 53) k) k = 3 then nI k else -6) → K m') : gCv X 123 [.ref 53, .int (nI k)] m K := by
  refine g_inV rfl ?_
  refine g_aload_n (pc' := 1) rfl rfl rfl ?_
  refine g_getr (pc' := 4) rfl rfl (f_11_1) ?_
  refine g_iload_n (pc' := 5) rfl rfl rfl ?_
  refine g_dup2 (pc' := 6) rfl rfl ?_
  refine g_iald (pc' := 7) rfl rfl (a_55) hk rfl ?_
  refine g_vi (y := sC (stAt m 53) k) (r_C hk) ?_
  refine g_iconst (pc' := 8) (v := 1) rfl rfl (by decide) ?_
  refine g_iadd (pc' := 9) rfl rfl ?_
  refine g_iast (pc' := 10) rfl rfl (a_55) hk rfl ?_
  refine g_mem (fun m1 hm1 => ?_)
  have hF1 : Fr 53 59 m m1 := by rw [hm1]; exact Fr.rf.s (by omega) (by omega)
  have hs1 : stAt m1 53 = hurt (stAt m 53) k := by rw [hm1, w_C hk]; rfl
  have h53 : m1.1 53 = m.1 53 := by rw [hm1]; exact x55
  refine g_aload_n (pc' := 11) rfl rfl rfl ?_
  refine g_iload_n (pc' := 12) rfl rfl rfl ?_
  refine g_calli (pc' := 15) rfl rfl rfl rfl (Or.inr rfl) ?_
  refine d_isBroken hk (fun q => ?_) (fun q => ?_)
  · refine g_if_eq (pc' := 18) (t := 33) rfl rfl rfl (fun c => absurd c (by decide)) (fun _ => ?_)
    refine g_aload_n (pc' := 19) rfl rfl rfl ?_
    refine g_iload_n (pc' := 20) rfl rfl rfl ?_
    refine g_puti (pc' := 23) rfl rfl (i_11_15) ?_
    refine g_aload_n (pc' := 24) rfl rfl rfl ?_
    refine g_dup (pc' := 25) rfl rfl rfl ?_
    refine g_geti (pc' := 28) rfl rfl (i_11_16) ?_
    refine g_iconst (pc' := 29) (v := 1) rfl rfl (by decide) ?_
    refine g_iadd (pc' := 30) rfl rfl ?_
    refine g_puti (pc' := 33) rfl rfl (i_11_16) ?_
    exact g_return rfl rfl (h _ ((hF1.s (by omega) (by omega)).s (by omega) (by omega)) ((w_x (Or.inr ⟨rfl, by decide⟩)).trans ((w_x (Or.inr ⟨rfl, by decide⟩)).trans hs1)) (by
          rw [if_pos (by rw [← hs1]; exact q), bk_k (by omega), ← h53]
          simp only [am_wi_s, upd]
          rfl))
  · refine g_if_eq (pc' := 18) (t := 33) rfl rfl rfl (fun _ => ?_) (fun c => absurd c (by decide))
    exact g_return rfl rfl (h m1 hF1 hs1 (by rw [if_neg (by rw [← hs1]; exact q), bk_6, h53]))
theorem d_strike {a b : Nat} (ha : a < 10) (hb : b < 10) (h : ∀ m', Fr 53 59 m m' → stAt m' 53 = (strikeS (stAt m 53) a b).1 → m'.1 53 = bk (m.1 53) (strikeS (stAt m 53) a b).2 → K m') : gCv X 124 [.ref 53, .int (nI a), .int (nI b)] m K := by
  refine g_inV rfl ?_
  refine g_aload_n (pc' := 1) rfl rfl rfl ?_
  refine g_iload_n (pc' := 2) rfl rfl rfl ?_
  refine g_aload_n (pc' := 3) rfl rfl rfl ?_
  refine g_getr (pc' := 6) rfl rfl (f_11_1) ?_
  refine g_iload_n (pc' := 7) rfl rfl rfl ?_
  refine g_iald (pc' := 8) rfl rfl (a_55) ha rfl ?_
  refine g_vi (y := sC (stAt m 53) a) (r_C ha) ?_
  refine g_calli (pc' := 11) rfl rfl rfl rfl (Or.inr rfl) ?_
  refine d_forceBy ha ?_
  refine g_aload_n (pc' := 12) rfl rfl rfl ?_
  refine g_iload_n (pc' := 13) rfl rfl rfl ?_
  refine g_aload_n (pc' := 14) rfl rfl rfl ?_
  refine g_getr (pc' := 17) rfl rfl (f_11_1) ?_
  refine g_iload_n (pc' := 18) rfl rfl rfl ?_
  refine g_iald (pc' := 19) rfl rfl (a_55) hb rfl ?_
  refine g_vi (y := sC (stAt m 53) b) (r_C hb) ?_
  refine g_calli (pc' := 22) rfl rfl rfl rfl (Or.inr rfl) ?_
  refine d_forceBy hb ?_
  refine g_icmp_lt (pc' := 25) (t := 29) rfl rfl rfl (fun c_22 => ?_) (fun c_22 => ?_)
  · refine g_iconst (pc' := 30) (v := 0) rfl rfl (by decide) ?_
    refine g_istore_n (pc' := 31) rfl rfl rfl ?_
    refine g_iload_n (pc' := 32) rfl rfl rfl ?_
    refine g_if_eq (pc' := 35) (t := 39) rfl rfl rfl (fun _ => ?_) (fun c => absurd c (by decide))
    refine g_iload_n (pc' := 40) rfl rfl rfl ?_
    refine g_istore (pc' := 42) rfl rfl rfl ?_
    refine g_iload_n (pc' := 43) rfl rfl rfl ?_
    refine g_if_eq (pc' := 46) (t := 50) rfl rfl rfl (fun _ => ?_) (fun c => absurd c (by decide))
    refine g_iload_n (pc' := 51) rfl rfl rfl ?_
    refine g_istore (pc' := 53) rfl rfl rfl ?_
    refine g_aload_n (pc' := 54) rfl rfl rfl ?_
    refine g_iload (pc' := 56) rfl rfl rfl ?_
    refine g_callv (pc' := 59) rfl rfl rfl rfl (Or.inr rfl) ?_
    refine d_breakOne ha (fun m1 hF1 hs1 h53 => ?_)
    have hst := strike_hit (s := stAt m 53) (a := a) (b := b) (hit := a) (oth := b) (if_neg (i_lt_nle c_22)) (if_neg (i_lt_nle c_22))
    have hst2 : (strikeS (stAt m 53) a b).2 = if sC (hurt (stAt m 53) a) a = 3 then nI a else -6 := by rw [hst]; split <;> rfl
    rw [← hst2] at h53
    refine g_aload_n (pc' := 60) rfl rfl rfl ?_
    refine g_iload (pc' := 62) rfl rfl rfl ?_
    refine g_calli (pc' := 65) rfl rfl rfl rfl (Or.inr rfl) ?_
    refine d_isBroken ha (fun q => ?_) (fun q => ?_)
    · refine g_if_eq (pc' := 68) (t := 102) rfl rfl rfl (fun c => absurd c (by decide)) (fun _ => ?_)
      refine g_aload_n (pc' := 69) rfl rfl rfl ?_
      refine g_getr (pc' := 72) rfl rfl (f_11_2) ?_
      refine g_iload (pc' := 74) rfl rfl rfl ?_
      refine g_dup2 (pc' := 75) rfl rfl ?_
      refine g_iald (pc' := 76) rfl rfl (a_56) hb rfl ?_
      refine g_vi (y := sS (stAt m1 53) b) (r_S hb) ?_
      refine g_aload_n (pc' := 77) rfl rfl rfl ?_
      refine g_getr (pc' := 80) rfl rfl (f_11_2) ?_
      refine g_iload (pc' := 82) rfl rfl rfl ?_
      refine g_iald (pc' := 83) rfl rfl (a_56) ha rfl ?_
      refine g_vi (y := sS (stAt m1 53) a) (r_S ha) ?_
      refine g_iadd (pc' := 84) rfl rfl ?_
      refine g_iast (pc' := 85) rfl rfl (a_56) hb rfl ?_
      refine g_mem (fun m2 hm2 => ?_)
      have hF2 : Fr 53 59 m m2 := by rw [hm2]; exact hF1.s (by omega) (by omega)
      have hs2 : stAt m2 53 = uS (stAt m1 53) b (sS (stAt m1 53) b + sS (stAt m1 53) a) := by rw [hm2, w_S hb]
      have h532 : m2.1 53 = m1.1 53 := by rw [hm2]; exact x56
      refine g_aload_n (pc' := 86) rfl rfl rfl ?_
      refine g_getr (pc' := 89) rfl rfl (f_11_4) ?_
      refine g_iload (pc' := 91) rfl rfl rfl ?_
      refine g_dup2 (pc' := 92) rfl rfl ?_
      refine g_iald (pc' := 93) rfl rfl (a_58) hb rfl ?_
      refine g_vi (y := sI (stAt m1 53) b) ((r_I hb).trans (by rw [hs2]; rfl)) ?_
      refine g_aload_n (pc' := 94) rfl rfl rfl ?_
      refine g_getr (pc' := 97) rfl rfl (f_11_4) ?_
      refine g_iload (pc' := 99) rfl rfl rfl ?_
      refine g_iald (pc' := 100) rfl rfl (a_58) ha rfl ?_
      refine g_vi (y := sI (stAt m1 53) a) ((r_I ha).trans (by rw [hs2]; rfl)) ?_
      refine g_ior (pc' := 101) rfl rfl ?_
      refine g_iast (pc' := 102) rfl rfl (a_58) hb rfl ?_
      exact g_return rfl rfl (h _ (hF2.s (by omega) (by omega)) (by rw [w_I hb, hs2, hst, if_pos (by rw [← hs1]; exact q), ← hs1]; rfl) (x58.trans (h532.trans h53)))
    · refine g_if_eq (pc' := 68) (t := 102) rfl rfl rfl (fun _ => ?_) (fun c => absurd c (by decide))
      exact g_return rfl rfl (h m1 hF1 (by rw [hs1, hst, if_neg (by rw [← hs1]; exact q)]) h53)
  · refine g_iconst (pc' := 26) (v := 1) rfl rfl (by decide) ?_
    refine g_goto (pc' := 30) rfl rfl ?_
    refine g_istore_n (pc' := 31) rfl rfl rfl ?_
    refine g_iload_n (pc' := 32) rfl rfl rfl ?_
    refine g_if_eq (pc' := 35) (t := 39) rfl rfl rfl (fun c => absurd c (by decide)) (fun _ => ?_)
    refine g_iload_n (pc' := 36) rfl rfl rfl ?_
    refine g_goto (pc' := 40) rfl rfl ?_
    refine g_istore (pc' := 42) rfl rfl rfl ?_
    refine g_iload_n (pc' := 43) rfl rfl rfl ?_
    refine g_if_eq (pc' := 46) (t := 50) rfl rfl rfl (fun c => absurd c (by decide)) (fun _ => ?_)
    refine g_iload_n (pc' := 47) rfl rfl rfl ?_
    refine g_goto (pc' := 51) rfl rfl ?_
    refine g_istore (pc' := 53) rfl rfl rfl ?_
    refine g_aload_n (pc' := 54) rfl rfl rfl ?_
    refine g_iload (pc' := 56) rfl rfl rfl ?_
    refine g_callv (pc' := 59) rfl rfl rfl rfl (Or.inr rfl) ?_
    refine d_breakOne hb (fun m1 hF1 hs1 h53 => ?_)
    have hst := strike_hit (s := stAt m 53) (a := a) (b := b) (hit := b) (oth := a) (if_pos (i_nlt_le c_22)) (if_pos (i_nlt_le c_22))
    have hst2 : (strikeS (stAt m 53) a b).2 = if sC (hurt (stAt m 53) b) b = 3 then nI b else -6 := by rw [hst]; split <;> rfl
    rw [← hst2] at h53
    refine g_aload_n (pc' := 60) rfl rfl rfl ?_
    refine g_iload (pc' := 62) rfl rfl rfl ?_
    refine g_calli (pc' := 65) rfl rfl rfl rfl (Or.inr rfl) ?_
    refine d_isBroken hb (fun q => ?_) (fun q => ?_)
    · refine g_if_eq (pc' := 68) (t := 102) rfl rfl rfl (fun c => absurd c (by decide)) (fun _ => ?_)
      refine g_aload_n (pc' := 69) rfl rfl rfl ?_
      refine g_getr (pc' := 72) rfl rfl (f_11_2) ?_
      refine g_iload (pc' := 74) rfl rfl rfl ?_
      refine g_dup2 (pc' := 75) rfl rfl ?_
      refine g_iald (pc' := 76) rfl rfl (a_56) ha rfl ?_
      refine g_vi (y := sS (stAt m1 53) a) (r_S ha) ?_
      refine g_aload_n (pc' := 77) rfl rfl rfl ?_
      refine g_getr (pc' := 80) rfl rfl (f_11_2) ?_
      refine g_iload (pc' := 82) rfl rfl rfl ?_
      refine g_iald (pc' := 83) rfl rfl (a_56) hb rfl ?_
      refine g_vi (y := sS (stAt m1 53) b) (r_S hb) ?_
      refine g_iadd (pc' := 84) rfl rfl ?_
      refine g_iast (pc' := 85) rfl rfl (a_56) ha rfl ?_
      refine g_mem (fun m2 hm2 => ?_)
      have hF2 : Fr 53 59 m m2 := by rw [hm2]; exact hF1.s (by omega) (by omega)
      have hs2 : stAt m2 53 = uS (stAt m1 53) a (sS (stAt m1 53) a + sS (stAt m1 53) b) := by rw [hm2, w_S ha]
      have h532 : m2.1 53 = m1.1 53 := by rw [hm2]; exact x56
      refine g_aload_n (pc' := 86) rfl rfl rfl ?_
      refine g_getr (pc' := 89) rfl rfl (f_11_4) ?_
      refine g_iload (pc' := 91) rfl rfl rfl ?_
      refine g_dup2 (pc' := 92) rfl rfl ?_
      refine g_iald (pc' := 93) rfl rfl (a_58) ha rfl ?_
      refine g_vi (y := sI (stAt m1 53) a) ((r_I ha).trans (by rw [hs2]; rfl)) ?_
      refine g_aload_n (pc' := 94) rfl rfl rfl ?_
      refine g_getr (pc' := 97) rfl rfl (f_11_4) ?_
      refine g_iload (pc' := 99) rfl rfl rfl ?_
      refine g_iald (pc' := 100) rfl rfl (a_58) hb rfl ?_
      refine g_vi (y := sI (stAt m1 53) b) ((r_I hb).trans (by rw [hs2]; rfl)) ?_
      refine g_ior (pc' := 101) rfl rfl ?_
      refine g_iast (pc' := 102) rfl rfl (a_58) ha rfl ?_
      exact g_return rfl rfl (h _ (hF2.s (by omega) (by omega)) (by rw [w_I ha, hs2, hst, if_pos (by rw [← hs1]; exact q), ← hs1]; rfl) (x58.trans (h532.trans h53)))
    · refine g_if_eq (pc' := 68) (t := 102) rfl rfl rfl (fun _ => ?_) (fun c => absurd c (by decide))
      exact g_return rfl rfl (h m1 hF1 (by rw [hs1, hst, if_neg (by rw [← hs1]; exact q)]) h53)
theorem less_min {a b : Int32} : (if b ≤ a then b else a) = minV a b := by
  unfold minV
  by_cases h : b < a
  · rw [if_pos h, if_pos (by rw [Int32.le_iff_toInt_le]; rw [Int32.lt_iff_toInt_lt] at h; omega)]
  · rw [if_neg h]
    by_cases h2 : b ≤ a
    · rw [if_pos h2]
      apply Int32.toInt_inj.mp
      rw [Int32.le_iff_toInt_le] at h2
      rw [Int32.lt_iff_toInt_lt] at h
      omega
    · rw [if_neg h2]
theorem bakeS_dry {s : aStr} {k : Nat} (h : 60 ≤ sH s k) : bakeS1 s k = hurt (uH s k (minV 99 (sH s k + 10))) k := by
  unfold bakeS1
  rw [if_pos h]
  rfl
theorem bakeS_wet {s : aStr} {k : Nat} (h : ¬ 60 ≤ sH s k) : bakeS1 s k = uH s k (minV 99 (sH s k + 10)) := by
  unfold bakeS1
  rw [if_neg h]
theorem d_bake {k : Nat} (hk : k < 10) (hb : ¬ sC (stAt m 53) k = 3) (h : ∀ m', Fr 53 59 m m' → stAt m' 53 = (bakeS (stAt m 53) k).1 → m'.1 53 = bk (m.1 53) (bakeS (stAt m 53) k).2 → K m') : gCv X 125 [.ref 53, .int (nI k)] m K := by
  refine g_inV rfl ?_
  refine g_aload_n (pc' := 1) rfl rfl rfl ?_
  refine g_getr (pc' := 4) rfl rfl (f_11_0) ?_
  refine g_iload_n (pc' := 5) rfl rfl rfl ?_
  refine g_iald (pc' := 6) rfl rfl (a_54) hk rfl ?_
  refine g_vi (y := sH (stAt m 53) k) (r_H hk) ?_
  refine g_bipush (pc' := 8) (v := 60) rfl rfl (by decide) ?_
  refine g_icmp_lt (pc' := 11) (t := 15) rfl rfl rfl (fun c_8 => ?_) (fun c_8 => ?_)
  · refine g_iconst (pc' := 16) (v := 0) rfl rfl (by decide) ?_
    refine g_istore_n (pc' := 17) rfl rfl rfl ?_
    refine g_aload_n (pc' := 18) rfl rfl rfl ?_
    refine g_getr (pc' := 21) rfl rfl (f_11_0) ?_
    refine g_iload_n (pc' := 22) rfl rfl rfl ?_
    refine g_bipush (pc' := 24) (v := 99) rfl rfl (by decide) ?_
    refine g_aload_n (pc' := 25) rfl rfl rfl ?_
    refine g_getr (pc' := 28) rfl rfl (f_11_0) ?_
    refine g_iload_n (pc' := 29) rfl rfl rfl ?_
    refine g_iald (pc' := 30) rfl rfl (a_54) hk rfl ?_
    refine g_vi (y := sH (stAt m 53) k) (r_H hk) ?_
    refine g_bipush (pc' := 32) (v := 10) rfl rfl (by decide) ?_
    refine g_iadd (pc' := 33) rfl rfl ?_
    refine g_calli (pc' := 36) rfl rfl rfl rfl (Or.inl rfl) ?_
    refine d_less ?_
    rw [less_min]
    refine g_iast (pc' := 37) rfl rfl (a_54) hk rfl ?_
    refine g_mem (fun m1 hm1 => ?_)
    have hF1 : Fr 53 59 m m1 := by rw [hm1]; exact Fr.rf.s (by omega) (by omega)
    have hs1 : stAt m1 53 = uH (stAt m 53) k (minV 99 (sH (stAt m 53) k + 10)) := by rw [hm1, w_H hk]
    have h53 : m1.1 53 = m.1 53 := by rw [hm1]; exact x54
    refine g_iload_n (pc' := 38) rfl rfl rfl ?_
    refine g_if_eq (pc' := 41) (t := 46) rfl rfl rfl (fun _ => ?_) (fun c => absurd c (by decide))
    exact g_return rfl rfl (h m1 hF1 (hs1.trans (bakeS_wet (i_lt_nle c_8)).symm) (by
          show _ = bk _ (if _ then _ else _)
          rw [bakeS_wet (i_lt_nle c_8), if_neg (show ¬ sC (uH (stAt m 53) k (minV 99 (sH (stAt m 53) k + 10))) k = 3 from hb), bk_6, h53]))
  · refine g_iconst (pc' := 12) (v := 1) rfl rfl (by decide) ?_
    refine g_goto (pc' := 16) rfl rfl ?_
    refine g_istore_n (pc' := 17) rfl rfl rfl ?_
    refine g_aload_n (pc' := 18) rfl rfl rfl ?_
    refine g_getr (pc' := 21) rfl rfl (f_11_0) ?_
    refine g_iload_n (pc' := 22) rfl rfl rfl ?_
    refine g_bipush (pc' := 24) (v := 99) rfl rfl (by decide) ?_
    refine g_aload_n (pc' := 25) rfl rfl rfl ?_
    refine g_getr (pc' := 28) rfl rfl (f_11_0) ?_
    refine g_iload_n (pc' := 29) rfl rfl rfl ?_
    refine g_iald (pc' := 30) rfl rfl (a_54) hk rfl ?_
    refine g_vi (y := sH (stAt m 53) k) (r_H hk) ?_
    refine g_bipush (pc' := 32) (v := 10) rfl rfl (by decide) ?_
    refine g_iadd (pc' := 33) rfl rfl ?_
    refine g_calli (pc' := 36) rfl rfl rfl rfl (Or.inl rfl) ?_
    refine d_less ?_
    rw [less_min]
    refine g_iast (pc' := 37) rfl rfl (a_54) hk rfl ?_
    refine g_mem (fun m1 hm1 => ?_)
    have hF1 : Fr 53 59 m m1 := by rw [hm1]; exact Fr.rf.s (by omega) (by omega)
    have hs1 : stAt m1 53 = uH (stAt m 53) k (minV 99 (sH (stAt m 53) k + 10)) := by rw [hm1, w_H hk]
    have h53 : m1.1 53 = m.1 53 := by rw [hm1]; exact x54
    refine g_iload_n (pc' := 38) rfl rfl rfl ?_
    refine g_if_eq (pc' := 41) (t := 46) rfl rfl rfl (fun c => absurd c (by decide)) (fun _ => ?_)
    refine g_aload_n (pc' := 42) rfl rfl rfl ?_
    refine g_iload_n (pc' := 43) rfl rfl rfl ?_
    refine g_callv (pc' := 46) rfl rfl rfl rfl (Or.inr rfl) ?_
    refine d_breakOne hk (fun m2 f2 e2 g2 => ?_)
    exact g_return rfl rfl (h m2 (hF1.tr f2) (e2.trans (by rw [hs1]; exact (bakeS_dry (i_nlt_le c_8)).symm)) (by
          show _ = bk _ (if _ then _ else _)
          rw [g2, h53, hs1, bakeS_dry (i_nlt_le c_8)]))
theorem less_dh {x : Int32} (h : x ≤ 99) : minV 99 (x + 1) = if 99 ≤ x then x else x + 1 := by
  have e99 : (99 : Int32).toInt = 99 := by decide
  have hx : x.toInt ≤ 99 := by rw [Int32.le_iff_toInt_le] at h; omega
  by_cases h2 : 99 ≤ x
  · have e : x = 99 := by
      apply Int32.toInt_inj.mp
      rw [Int32.le_iff_toInt_le] at h2
      omega
    subst e
    decide
  · rw [if_neg h2]
    unfold minV
    have hl : x.toInt < 99 := by rw [Int32.le_iff_toInt_le] at h2; omega
    have hm := Int32.minValue_le_toInt x
    have e1 : (x + 1).toInt = x.toInt + 1 := by
      rw [Int32.toInt_add]
      have : (1 : Int32).toInt = 1 := by decide
      rw [this]
      have hmin : Int32.minValue.toInt = -2147483648 := by decide
      rw [hmin] at hm
      exact Int.bmod_eq_of_le (by omega) (by omega)
    by_cases h3 : x + 1 < 99
    · rw [if_pos h3]
    · rw [if_neg h3]
      apply Int32.toInt_inj.mp
      rw [Int32.lt_iff_toInt_lt] at h3
      omega
theorem d_passDay (hW : ∀ k, k < 10 → sH (stAt m 53) k ≤ 99) (h : ∀ m', Fr 53 59 m m' → stAt m' 53 = dayS (stAt m 53) → (∀ i, i ≠ 5 → m'.1 53 i = m.1 53 i) → K m') : gCv X 126 [.ref 53] m K := by
  refine g_inV rfl ?_
  have loop : ∀ (d i : Nat) (m1 : aMem), i + d = 10 → Fr 53 59 m m1 → stAt m1 53 = dayP (stAt m 53) i → m1.1 53 = m.1 53 → gG X 126 2 [.ref 53, .int (nI i)] [] m1 (fun r m' => r = none ∧ K m') := by
    intro d
    induction d with
    | zero =>
      intro i m1 hd hF hs h53
      have hi : i = 10 := by omega
      subst hi
      refine g_iload_n (pc' := 3) rfl rfl rfl ?_
      refine g_bipush (pc' := 5) (v := 10) rfl rfl (by decide) ?_
      refine g_icmp_ge (pc' := 8) (t := 50) rfl rfl rfl (fun c_5 => ?_) (fun c_5 => absurd (by decide) c_5)
      refine g_aload_n (pc' := 51) rfl rfl rfl ?_
      refine g_dup (pc' := 52) rfl rfl rfl ?_
      refine g_geti (pc' := 55) rfl rfl (i_11_5) ?_
      refine g_iconst (pc' := 56) (v := 1) rfl rfl (by decide) ?_
      refine g_iadd (pc' := 57) rfl rfl ?_
      refine g_puti (pc' := 60) rfl rfl (i_11_5) ?_
      exact g_return rfl rfl (h _ (hF.s (by omega) (by omega)) (by rw [show stAt (am_wi m1.1 53 5 (m1.1 53 5 + 1), m1.2) 53 = uD (stAt m1 53) (m1.1 53 5 + 1) from st_wD, hs]; rw [show m1.1 53 5 = sD (stAt m1 53) from rfl, hs]; rfl) (fun i hi => by show am_wi m1.1 53 5 _ 53 i = _; rw [am_wi_s]; simp [upd, hi, h53]))
    | succ d ih =>
      intro i m1 hd hF hs h53
      have hlt : i < 10 := by omega
      have e1 : m1.1 54 i = sH (stAt m 53) i := by rw [r_H hlt, hs]; exact dayP_H _ _
      refine g_iload_n (pc' := 3) rfl rfl rfl ?_
      refine g_bipush (pc' := 5) (v := 10) rfl rfl (by decide) ?_
      refine g_icmp_ge (pc' := 8) (t := 50) rfl rfl rfl (fun c_5 => absurd c_5 (nI_ge (b := 10) hlt (by decide))) (fun c_5 => ?_)
      refine g_aload_n (pc' := 9) rfl rfl rfl ?_
      refine g_getr (pc' := 12) rfl rfl (f_11_0) ?_
      refine g_iload_n (pc' := 13) rfl rfl rfl ?_
      refine g_aload_n (pc' := 14) rfl rfl rfl ?_
      refine g_iload_n (pc' := 15) rfl rfl rfl ?_
      refine g_calli (pc' := 18) rfl rfl rfl rfl (Or.inr rfl) ?_
      refine d_isBroken hlt (fun q => ?_) (fun q => ?_)
      · refine g_if_eq (pc' := 21) (t := 30) rfl rfl rfl (fun c => absurd c (by decide)) (fun _ => ?_)
        refine g_aload_n (pc' := 22) rfl rfl rfl ?_
        refine g_getr (pc' := 25) rfl rfl (f_11_0) ?_
        refine g_iload_n (pc' := 26) rfl rfl rfl ?_
        refine g_iald (pc' := 27) rfl rfl (a_54) hlt rfl ?_
        refine g_vi (y := sH (stAt m 53) i) (e1) ?_
        refine g_goto (pc' := 43) rfl rfl ?_
        refine g_iast (pc' := 44) rfl rfl (a_54) hlt rfl ?_
        refine g_iinc (pc' := 47) (v := nI (i + 1)) rfl rfl rfl (nI_1 i) rfl ?_
        refine g_goto (pc' := 2) rfl rfl ?_
        exact ih (i + 1) _ (by omega) (hF.s (by omega) (by omega)) (by rw [w_H hlt, hs, dayP_s]; congr 1; unfold dh; rw [if_pos (show sC (stAt m 53) i = 3 by rw [← dayP_C (stAt m 53) i, ← hs]; exact q)]) (x54.trans h53)
      · refine g_if_eq (pc' := 21) (t := 30) rfl rfl rfl (fun _ => ?_) (fun c => absurd c (by decide))
        refine g_bipush (pc' := 32) (v := 99) rfl rfl (by decide) ?_
        refine g_aload_n (pc' := 33) rfl rfl rfl ?_
        refine g_getr (pc' := 36) rfl rfl (f_11_0) ?_
        refine g_iload_n (pc' := 37) rfl rfl rfl ?_
        refine g_iald (pc' := 38) rfl rfl (a_54) hlt rfl ?_
        refine g_vi (y := sH (stAt m 53) i) (e1) ?_
        refine g_iconst (pc' := 39) (v := 1) rfl rfl (by decide) ?_
        refine g_iadd (pc' := 40) rfl rfl ?_
        refine g_calli (pc' := 43) rfl rfl rfl rfl (Or.inl rfl) ?_
        refine d_less ?_
        rw [less_min, less_dh (hW i hlt)]
        refine g_iast (pc' := 44) rfl rfl (a_54) hlt rfl ?_
        refine g_iinc (pc' := 47) (v := nI (i + 1)) rfl rfl rfl (nI_1 i) rfl ?_
        refine g_goto (pc' := 2) rfl rfl ?_
        exact ih (i + 1) _ (by omega) (hF.s (by omega) (by omega)) (by rw [w_H hlt, hs, dayP_s]; congr 1; unfold dh; rw [if_neg (show ¬ sC (stAt m 53) i = 3 by rw [← dayP_C (stAt m 53) i, ← hs]; exact q)]) (x54.trans h53)
  refine g_iconst (pc' := 1) (v := 0) rfl rfl (by decide) ?_
  refine g_istore_n (pc' := 2) rfl rfl rfl ?_
  exact loop 10 0 m rfl Fr.rf (dayP_0 _).symm rfl
theorem d_happen {kd a b : Nat} (hk : kd < 4) (ha : a < 10) (hb : kd = 0 → b < 10) (h1 : kd = 1 → ¬ sC (stAt m 53) a = 3) (hW : ∀ k, k < 10 → sH (stAt m 53) k ≤ 99) (h : ∀ m', Fr 53 59 m m' → stAt m' 53 = (actS (stAt m 53) kd a b).1 → (∀ i, i ≠ 5 → m'.1 53 i = bk (upd (m.1 53) 15 (-6)) (actS (stAt m 53) kd a b).2 i) → K m') : gCv X 127 [.ref 53, .int (nI kd), .int (nI a), .int (nI b)] m K := by
  refine g_inV rfl ?_
  refine g_aload_n (pc' := 1) rfl rfl rfl ?_
  refine g_bipush (pc' := 3) (v := -6) rfl rfl (by decide) ?_
  refine g_puti (pc' := 6) rfl rfl (i_11_15) ?_
  refine g_mem (fun m1 hm1 => ?_)
  have hF1 : Fr 53 59 m m1 := by rw [hm1]; exact Fr.rf.s (by omega) (by omega)
  have hs1 : stAt m1 53 = stAt m 53 := by rw [hm1]; exact w_x (Or.inr ⟨rfl, by decide⟩)
  have h53 : m1.1 53 = upd (m.1 53) 15 (-6) := by rw [hm1]; show am_wi m.1 53 15 (-6) 53 = _; rw [am_wi_s]
  refine g_iload_n (pc' := 7) rfl rfl rfl ?_
  rcases (show kd = 0 ∨ kd = 1 ∨ kd = 2 ∨ kd = 3 by omega) with rfl | rfl | rfl | rfl
  · refine g_tabI (pc' := 32) rfl (by decide) rfl rfl ?_
    refine g_aload_n (pc' := 33) rfl rfl rfl ?_
    refine g_iload_n (pc' := 34) rfl rfl rfl ?_
    refine g_iload_n (pc' := 35) rfl rfl rfl ?_
    refine g_callv (pc' := 38) rfl rfl rfl rfl (Or.inr rfl) ?_
    refine d_strike ha (hb rfl) (fun m2 f2 e2 g2 => ?_)
    refine g_goto (pc' := 63) rfl rfl ?_
    exact g_return rfl rfl (h m2 (hF1.tr f2) (by rw [e2, hs1]; rfl) (fun i _ => by rw [g2, h53, hs1]; rfl))
  · refine g_tabI (pc' := 41) rfl (by decide) rfl rfl ?_
    refine g_aload_n (pc' := 42) rfl rfl rfl ?_
    refine g_iload_n (pc' := 43) rfl rfl rfl ?_
    refine g_callv (pc' := 46) rfl rfl rfl rfl (Or.inr rfl) ?_
    refine d_bake ha (by rw [hs1]; exact h1 rfl) (fun m2 f2 e2 g2 => ?_)
    refine g_goto (pc' := 63) rfl rfl ?_
    exact g_return rfl rfl (h m2 (hF1.tr f2) (by rw [e2, hs1]; rfl) (fun i _ => by rw [g2, h53, hs1]; rfl))
  · refine g_tabI (pc' := 49) rfl (by decide) rfl rfl ?_
    refine g_aload_n (pc' := 50) rfl rfl rfl ?_
    refine g_getr (pc' := 53) rfl rfl (f_11_3) ?_
    refine g_iload_n (pc' := 54) rfl rfl rfl ?_
    refine g_iload_n (pc' := 55) rfl rfl rfl ?_
    refine g_iast (pc' := 56) rfl rfl (a_57) ha rfl ?_
    refine g_goto (pc' := 63) rfl rfl ?_
    exact g_return rfl rfl (h _ (hF1.s (by omega) (by omega)) (by rw [w_O ha, hs1]; rfl) (fun i _ => by rw [x57, h53]; rfl))
  · refine g_tabO (pc' := 59) rfl (by decide) rfl ?_
    refine g_aload_n (pc' := 60) rfl rfl rfl ?_
    refine g_callv (pc' := 63) rfl rfl rfl rfl (Or.inr rfl) ?_
    refine d_passDay (by rw [hs1]; exact hW) (fun m2 f2 e2 g2 => ?_)
    exact g_return rfl rfl (h m2 (hF1.tr f2) (by rw [e2, hs1]; rfl) (fun i hi => by rw [g2 i hi, h53]; rfl))
end M2
