/-! LOTS: the class -/
abbrev aFr : Type := Int64 × Int64
def gcC : Nat → Int64 → Int64 → Int64
  | 0, a, _ => a
  | n + 1, a, b => if b = 0 then a else gcC n b (a - a / b * b)
def putC (p : aFr) (u l : Int64) : aFr := if 0 < gcC 200 u l then (u / gcC 200 u l, l / gcC 200 u l) else p
def addC (p : aFr) (a b : Int64) : aFr := if 0 < gcC 200 p.2 b then putC p (p.1 * (b / gcC 200 p.2 b) + a * (p.2 / gcC 200 p.2 b)) (p.2 / gcC 200 p.2 b * b) else p
def chS (n k : Nat) (i : Nat) (r : Int64) : Int64 := r * (nI n - nI k + nI (i + 1)).toInt64 / (nI (i + 1)).toInt64
def chC (n k : Nat) : Int64 := if k ≤ n then fN (chS n k) k 1 else 0
def acC (n x : Nat) (p : aFr) (k : Nat) : aFr := addC p (chC (2 ^ n - 1 - x) (2 ^ k - 1)) (chC (2 ^ n - 1) (2 ^ k - 1))
def meC (n x : Nat) (i : Nat) : aFr := fN (fun k p => acC n x p (k + 1)) i (0, 1)
theorem put_0 (p : aFr) : putC p 0 1 = (0, 1) := by
  have e : gcC 200 0 1 = 1 := by decide +kernel
  unfold putC
  rw [e, if_pos (by decide)]
  decide
def FRC (m : aMem) (p : aFr) : Prop := m.2 32 0 = p.1 ∧ m.2 32 1 = p.2
section L1
variable {X : aX} {m : aMem} {A : aA}
theorem l_n0 {k : Nat} (h : 0 < k) (h2 : k < 1000) : ¬ (nI k).toInt64 = 0 := fun z => by
  have := congrArg Int64.toInt z
  rw [Int32.toInt_toInt64, nI_toInt (by omega)] at this
  have e0 : (0 : Int64).toInt = 0 := by decide
  omega
theorem lt_n0 {g : Int64} (h : 0 < g) : ¬ g = 0 := fun z => by rw [z] at h; exact absurd h (by decide)
theorem c_gcd {K : Int64 → aMem → Prop} {a b : Int64} (h : K (gcC 200 a b) m) : gCl X 9 [.long a, .long b] m K := by
  refine g_inL rfl ?_
  have loop : ∀ (d i : Nat) (p q : Int64) (v9 v10 : Value), i + d = 200 → gcC d p q = gcC 200 a b → gG X 9 9 [.long a, .null, .long b, .null, .long p, .null, .long q, .null, .int (nI i), v9, v10] [] m (fun r m' => ∃ v, r = some (.long v) ∧ K v m') := by
    intro d
    induction d with
    | zero =>
      intro i p q v9 v10 hd hr
      have hi : i = 200 := by omega
      subst hi
      refine g_iload (pc' := 11) rfl rfl rfl ?_
      refine g_sipush (pc' := 14) (v := 200) rfl rfl (by decide) ?_
      refine g_icmp_ge (pc' := 17) (t := 45) rfl rfl rfl (fun c_14 => ?_) (fun c_14 => absurd (by decide) c_14)
      refine g_lload (pc' := 47) rfl rfl rfl ?_
      exact g_lreturn rfl rfl (by rw [← hr] at h; exact h)
    | succ d ih =>
      intro i p q v9 v10 hd hr
      have hlt : i < 200 := by omega
      refine g_iload (pc' := 11) rfl rfl rfl ?_
      refine g_sipush (pc' := 14) (v := 200) rfl rfl (by decide) ?_
      refine g_icmp_ge (pc' := 17) (t := 45) rfl rfl rfl (fun c_14 => absurd c_14 (nI_ge (b := 200) hlt (by decide))) (fun c_14 => ?_)
      refine g_lload (pc' := 19) rfl rfl rfl ?_
      refine g_lconst (pc' := 20) (v := 0) rfl rfl (by decide) ?_
      refine g_lcmp (pc' := 21) rfl rfl ?_
      refine g_if_eq (pc' := 24) (t := 45) rfl rfl rfl (fun c_21 => ?_) (fun c_21 => ?_)
      · refine g_lload (pc' := 47) rfl rfl rfl ?_
        exact g_lreturn rfl rfl (by rw [← hr, gcC, if_pos (lg_0.mp c_21)] at h; exact h)
      · refine g_lload (pc' := 26) rfl rfl rfl ?_
        refine g_lload (pc' := 28) rfl rfl rfl ?_
        refine g_lrem (pc' := 29) rfl rfl (fun z => c_21 (lg_0.mpr z)) ?_
        refine g_lstore (pc' := 31) rfl rfl rfl ?_
        refine g_lload (pc' := 33) rfl rfl rfl ?_
        refine g_lstore (pc' := 35) rfl rfl rfl ?_
        refine g_lload (pc' := 37) rfl rfl rfl ?_
        refine g_lstore (pc' := 39) rfl rfl rfl ?_
        refine g_iinc (pc' := 42) (v := nI (i + 1)) rfl rfl rfl (nI_1 i) rfl ?_
        refine g_goto (pc' := 9) rfl rfl ?_
        exact ih (i + 1) _ _ _ _ (by omega) (by rw [← hr, gcC, if_neg (fun z => c_21 (lg_0.mpr z))])
  refine g_lload_n (pc' := 1) rfl rfl rfl ?_
  refine g_lstore (pc' := 3) rfl rfl rfl ?_
  refine g_lload_n (pc' := 4) rfl rfl rfl ?_
  refine g_lstore (pc' := 6) rfl rfl rfl ?_
  refine g_iconst (pc' := 7) (v := 0) rfl rfl (by decide) ?_
  refine g_istore (pc' := 9) rfl rfl rfl ?_
  exact loop 200 0 _ _ _ _ rfl rfl
theorem c_put {K : aMem → Prop} {u l : Int64} {p : aFr} (hp : FRC m p) (h : ∀ m', Fr 32 33 m m' → FRC m' (putC p u l) → K m') : gCv X 7 [.ref 32, .long u, .long l] m K := by
  refine g_inV rfl ?_
  refine g_lload_n (pc' := 1) rfl rfl rfl ?_
  refine g_lload_n (pc' := 2) rfl rfl rfl ?_
  refine g_calll (pc' := 5) rfl rfl rfl rfl (Or.inl rfl) ?_
  refine c_gcd ?_
  refine g_lstore (pc' := 7) rfl rfl rfl ?_
  refine g_lload (pc' := 9) rfl rfl rfl ?_
  refine g_lconst (pc' := 10) (v := 0) rfl rfl (by decide) ?_
  refine g_lcmp (pc' := 11) rfl rfl ?_
  refine g_if_le (pc' := 14) (t := 30) rfl rfl rfl (fun c_11 => ?_) (fun c_11 => ?_)
  · exact g_return rfl rfl (h m Fr.rf (by unfold putC; rw [if_neg (fun z => absurd c_11 (i_lt_nle (lg_gt.mpr z)))]; exact hp))
  · have hg : 0 < gcC 200 u l := lg_gt.mp (i_nle_lt c_11)
    refine g_aload_n (pc' := 15) rfl rfl rfl ?_
    refine g_lload_n (pc' := 16) rfl rfl rfl ?_
    refine g_lload (pc' := 18) rfl rfl rfl ?_
    refine g_ldiv (pc' := 19) rfl rfl (lt_n0 hg) ?_
    refine g_putl (pc' := 22) rfl rfl (i_1_0) ?_
    refine g_aload_n (pc' := 23) rfl rfl rfl ?_
    refine g_lload_n (pc' := 24) rfl rfl rfl ?_
    refine g_lload (pc' := 26) rfl rfl rfl ?_
    refine g_ldiv (pc' := 27) rfl rfl (lt_n0 hg) ?_
    refine g_putl (pc' := 30) rfl rfl (i_1_1) ?_
    exact g_return rfl rfl (h _ ((Fr.rf.tr (Fr.wl (by omega) (by omega))).tr (Fr.wl (by omega) (by omega))) (by unfold putC FRC; rw [if_pos hg]; dsimp only; rw [am_wl_s, am_wl_s]; exact ⟨rfl, rfl⟩))
theorem c_fadd {K : aMem → Prop} {a b : Int64} {p : aFr} (hp : FRC m p) (h : ∀ m', Fr 32 33 m m' → FRC m' (addC p a b) → K m') : gCv X 8 [.ref 32, .long a, .long b] m K := by
  refine g_inV rfl ?_
  refine g_aload_n (pc' := 1) rfl rfl rfl ?_
  refine g_getl (pc' := 4) rfl rfl (i_1_1) ?_
  refine g_vl (y := p.2) (hp.2) ?_
  refine g_lload_n (pc' := 5) rfl rfl rfl ?_
  refine g_calll (pc' := 8) rfl rfl rfl rfl (Or.inl rfl) ?_
  refine c_gcd ?_
  refine g_lstore (pc' := 10) rfl rfl rfl ?_
  refine g_lload (pc' := 12) rfl rfl rfl ?_
  refine g_lconst (pc' := 13) (v := 0) rfl rfl (by decide) ?_
  refine g_lcmp (pc' := 14) rfl rfl ?_
  refine g_if_le (pc' := 17) (t := 49) rfl rfl rfl (fun c_14 => ?_) (fun c_14 => ?_)
  · exact g_return rfl rfl (h m Fr.rf (by unfold addC; rw [if_neg (fun z => absurd c_14 (i_lt_nle (lg_gt.mpr z)))]; exact hp))
  · have hg : 0 < gcC 200 p.2 b := lg_gt.mp (i_nle_lt c_14)
    refine g_aload_n (pc' := 18) rfl rfl rfl ?_
    refine g_aload_n (pc' := 19) rfl rfl rfl ?_
    refine g_getl (pc' := 22) rfl rfl (i_1_0) ?_
    refine g_vl (y := p.1) (hp.1) ?_
    refine g_lload_n (pc' := 23) rfl rfl rfl ?_
    refine g_lload (pc' := 25) rfl rfl rfl ?_
    refine g_ldiv (pc' := 26) rfl rfl (lt_n0 hg) ?_
    refine g_lmul (pc' := 27) rfl rfl ?_
    refine g_lload_n (pc' := 28) rfl rfl rfl ?_
    refine g_aload_n (pc' := 29) rfl rfl rfl ?_
    refine g_getl (pc' := 32) rfl rfl (i_1_1) ?_
    refine g_vl (y := p.2) (hp.2) ?_
    refine g_lload (pc' := 34) rfl rfl rfl ?_
    refine g_ldiv (pc' := 35) rfl rfl (lt_n0 hg) ?_
    refine g_lmul (pc' := 36) rfl rfl ?_
    refine g_ladd (pc' := 37) rfl rfl ?_
    refine g_aload_n (pc' := 38) rfl rfl rfl ?_
    refine g_getl (pc' := 41) rfl rfl (i_1_1) ?_
    refine g_vl (y := p.2) (hp.2) ?_
    refine g_lload (pc' := 43) rfl rfl rfl ?_
    refine g_ldiv (pc' := 44) rfl rfl (lt_n0 hg) ?_
    refine g_lload_n (pc' := 45) rfl rfl rfl ?_
    refine g_lmul (pc' := 46) rfl rfl ?_
    refine g_callv (pc' := 49) rfl rfl rfl rfl (Or.inr rfl) ?_
    refine c_put hp (fun m1 f1 r1 => ?_)
    exact g_return rfl rfl (h m1 f1 (by unfold addC; rw [if_pos hg]; exact r1))
theorem c_choices {K : Int64 → aMem → Prop} {n k : Nat} (hn : n < 100) (hk : k < 100) (h : K (chC n k) m) : gCl X 15 [.int (nI n), .int (nI k)] m K := by
  refine g_inL rfl ?_
  refine g_iload_n (pc' := 1) rfl rfl rfl ?_
  refine g_iload_n (pc' := 2) rfl rfl rfl ?_
  refine g_icmp_le (pc' := 5) (t := 7) rfl rfl rfl (fun c_2 => ?_) (fun c_2 => ?_)
  · have hkn : k ≤ n := (nI_leI (by omega) (by omega)).mp c_2
    refine g_lconst (pc' := 8) (v := 1) rfl rfl (by decide) ?_
    refine g_lstore_n (pc' := 9) rfl rfl rfl ?_
    refine g_iconst (pc' := 10) (v := 1) rfl rfl (by decide) ?_
    refine g_istore (pc' := 12) rfl rfl rfl ?_
    have loop : ∀ (d i : Nat), i + d = k → gG X 15 12 [.int (nI n), .int (nI k), .long (fN (chS n k) i 1), .null, .int (nI (i + 1))] [] m (fun r m' => ∃ v, r = some (.long v) ∧ K v m') := by
      intro d
      induction d with
      | zero =>
        intro i hd
        have hi : i = k := by omega
        subst hi
        refine g_iload (pc' := 14) rfl rfl rfl ?_
        refine g_iload_n (pc' := 15) rfl rfl rfl ?_
        refine g_icmp_gt (pc' := 18) (t := 38) rfl rfl rfl (fun c_15 => ?_) (fun c_15 => absurd (nI_ge (Nat.lt_succ_self i) (by omega)) (fun z => z (i_nlt_le c_15)))
        refine g_lload_n (pc' := 39) rfl rfl rfl ?_
        exact g_lreturn rfl rfl (by rw [chC, if_pos hkn] at h; exact h)
      | succ d ih =>
        intro i hd
        refine g_iload (pc' := 14) rfl rfl rfl ?_
        refine g_iload_n (pc' := 15) rfl rfl rfl ?_
        refine g_icmp_gt (pc' := 18) (t := 38) rfl rfl rfl (fun c_15 => absurd (nI_le (a := i + 1) (b := k) (by omega) (by omega)) (i_lt_nle c_15)) (fun c_15 => ?_)
        refine g_lload_n (pc' := 19) rfl rfl rfl ?_
        refine g_iload_n (pc' := 20) rfl rfl rfl ?_
        refine g_iload_n (pc' := 21) rfl rfl rfl ?_
        refine g_isub (pc' := 22) rfl rfl ?_
        refine g_iload (pc' := 24) rfl rfl rfl ?_
        refine g_iadd (pc' := 25) rfl rfl ?_
        refine g_i2l (pc' := 26) rfl rfl ?_
        refine g_lmul (pc' := 27) rfl rfl ?_
        refine g_iload (pc' := 29) rfl rfl rfl ?_
        refine g_i2l (pc' := 30) rfl rfl ?_
        refine g_ldiv (pc' := 31) rfl rfl (l_n0 (by omega) (by omega)) ?_
        refine g_lstore_n (pc' := 32) rfl rfl rfl ?_
        refine g_iinc (pc' := 35) (v := nI (i + 1 + 1)) rfl rfl rfl (nI_1 (i + 1)) rfl ?_
        refine g_goto (pc' := 12) rfl rfl ?_
        exact ih (i + 1) (by omega)
    exact loop k 0 (by omega)
  · refine g_lconst (pc' := 6) (v := 0) rfl rfl (by decide) ?_
    exact g_lreturn rfl rfl (by rw [chC, if_neg (fun z => c_2 (nI_le z (by omega)))] at h; exact h)
theorem p2_k : ∀ n, n < 6 → bit n - 1 = nI (2 ^ n - 1) ∧ 2 ^ n ≤ 32 ∧ 1 ≤ 2 ^ n := by decide +kernel
theorem c_addChance {K : aMem → Prop} {n x k : Nat} {p : aFr} (hn : n < 6) (hk : k < 6) (hx : x < 2 ^ n) (hp : FRC m p) (h : ∀ m', Fr 32 33 m m' → FRC m' (acC n x p k) → K m') : gCv X 14 [.ref 32, .int (nI n), .int (nI x), .int (nI k)] m K := by
  refine g_inV rfl ?_
  obtain ⟨a1, a2, a3⟩ := p2_k n hn
  obtain ⟨b1, b2, b3⟩ := p2_k k hk
  refine g_iconst (pc' := 1) (v := 1) rfl rfl (by decide) ?_
  refine g_iload_n (pc' := 2) rfl rfl rfl ?_
  refine g_ishl (pc' := 3) rfl rfl ?_
  refine g_iconst (pc' := 4) (v := 1) rfl rfl (by decide) ?_
  refine g_isub (pc' := 5) rfl rfl ?_
  refine g_vi (y := nI (2 ^ n - 1)) (a1) ?_
  refine g_istore (pc' := 7) rfl rfl rfl ?_
  refine g_iconst (pc' := 8) (v := 1) rfl rfl (by decide) ?_
  refine g_iload_n (pc' := 9) rfl rfl rfl ?_
  refine g_ishl (pc' := 10) rfl rfl ?_
  refine g_iconst (pc' := 11) (v := 1) rfl rfl (by decide) ?_
  refine g_isub (pc' := 12) rfl rfl ?_
  refine g_vi (y := nI (2 ^ k - 1)) (b1) ?_
  refine g_istore (pc' := 14) rfl rfl rfl ?_
  refine g_aload_n (pc' := 15) rfl rfl rfl ?_
  refine g_iload (pc' := 17) rfl rfl rfl ?_
  refine g_iload_n (pc' := 18) rfl rfl rfl ?_
  refine g_isub (pc' := 19) rfl rfl ?_
  refine g_vi (y := nI (2 ^ n - 1 - x)) (pk_sub (by omega)) ?_
  refine g_iload (pc' := 21) rfl rfl rfl ?_
  refine g_calll (pc' := 24) rfl rfl rfl rfl (Or.inl rfl) ?_
  refine c_choices (by omega) (by omega) ?_
  refine g_iload (pc' := 26) rfl rfl rfl ?_
  refine g_iload (pc' := 28) rfl rfl rfl ?_
  refine g_calll (pc' := 31) rfl rfl rfl rfl (Or.inl rfl) ?_
  refine c_choices (by omega) (by omega) ?_
  refine g_callv (pc' := 34) rfl rfl rfl rfl (Or.inr rfl) ?_
  refine c_fadd hp (fun m1 f1 r1 => ?_)
  exact g_return rfl rfl (h m1 f1 r1)
theorem c_putChance {K : aMem → Prop} {n x k : Nat} (hn : n < 6) (hk : k < 6) (hx : x < 2 ^ n) (h : ∀ m', Fr 32 33 m m' → FRC m' (acC n x (0, 1) k) → K m') : gCv X 12 [.ref 32, .int (nI n), .int (nI x), .int (nI k)] m K := by
  refine g_inV rfl ?_
  refine g_aload_n (pc' := 1) rfl rfl rfl ?_
  refine g_lconst (pc' := 2) (v := 0) rfl rfl (by decide) ?_
  refine g_lconst (pc' := 3) (v := 1) rfl rfl (by decide) ?_
  refine g_callv (pc' := 6) rfl rfl rfl rfl (Or.inr rfl) ?_
  refine c_put (p := (m.2 32 0, m.2 32 1)) ⟨rfl, rfl⟩ (fun m1 f1 r1 => ?_)
  rw [put_0] at r1
  refine g_aload_n (pc' := 7) rfl rfl rfl ?_
  refine g_iload_n (pc' := 8) rfl rfl rfl ?_
  refine g_iload_n (pc' := 9) rfl rfl rfl ?_
  refine g_iload_n (pc' := 10) rfl rfl rfl ?_
  refine g_callv (pc' := 13) rfl rfl rfl rfl (Or.inl rfl) ?_
  refine c_addChance hn hk hx r1 (fun m2 f2 r2 => ?_)
  exact g_return rfl rfl (h m2 (f1.tr f2) r2)
theorem c_putMean {K : aMem → Prop} {n x : Nat} (hn : n < 6) (hx : x < 2 ^ n) (h : ∀ m', Fr 32 33 m m' → FRC m' (meC n x n) → K m') : gCv X 13 [.ref 32, .int (nI n), .int (nI x)] m K := by
  refine g_inV rfl ?_
  have loop : ∀ (d i : Nat) (m1 : aMem), i + d = n → Fr 32 33 m m1 → FRC m1 (meC n x i) → gG X 13 8 [.ref 32, .int (nI n), .int (nI x), .int (nI (i + 1))] [] m1 (fun r m' => r = none ∧ K m') := by
    intro d
    induction d with
    | zero =>
      intro i m1 hd hF hR
      have hi : i = n := by omega
      subst hi
      refine g_iload_n (pc' := 9) rfl rfl rfl ?_
      refine g_iload_n (pc' := 10) rfl rfl rfl ?_
      refine g_icmp_gt (pc' := 13) (t := 26) rfl rfl rfl (fun c_10 => ?_) (fun c_10 => absurd (nI_ge (Nat.lt_succ_self i) (by omega)) (fun z => z (i_nlt_le c_10)))
      exact g_return rfl rfl (h m1 hF hR)
    | succ d ih =>
      intro i m1 hd hF hR
      refine g_iload_n (pc' := 9) rfl rfl rfl ?_
      refine g_iload_n (pc' := 10) rfl rfl rfl ?_
      refine g_icmp_gt (pc' := 13) (t := 26) rfl rfl rfl (fun c_10 => absurd (nI_le (a := i + 1) (b := n) (by omega) (by omega)) (i_lt_nle c_10)) (fun c_10 => ?_)
      refine g_aload_n (pc' := 14) rfl rfl rfl ?_
      refine g_iload_n (pc' := 15) rfl rfl rfl ?_
      refine g_iload_n (pc' := 16) rfl rfl rfl ?_
      refine g_iload_n (pc' := 17) rfl rfl rfl ?_
      refine g_callv (pc' := 20) rfl rfl rfl rfl (Or.inl rfl) ?_
      refine c_addChance hn (by omega) hx hR (fun m2 f2 r2 => ?_)
      refine g_iinc (pc' := 23) (v := nI (i + 1 + 1)) rfl rfl rfl (nI_1 (i + 1)) rfl ?_
      refine g_goto (pc' := 8) rfl rfl ?_
      exact ih (i + 1) m2 (by omega) (hF.tr f2) r2
  refine g_aload_n (pc' := 1) rfl rfl rfl ?_
  refine g_lconst (pc' := 2) (v := 0) rfl rfl (by decide) ?_
  refine g_lconst (pc' := 3) (v := 1) rfl rfl (by decide) ?_
  refine g_callv (pc' := 6) rfl rfl rfl rfl (Or.inr rfl) ?_
  refine c_put (p := (m.2 32 0, m.2 32 1)) ⟨rfl, rfl⟩ (fun m1 f1 r1 => ?_)
  rw [put_0] at r1
  refine g_iconst (pc' := 7) (v := 1) rfl rfl (by decide) ?_
  refine g_istore_n (pc' := 8) rfl rfl rfl ?_
  exact loop n 0 m1 (by omega) f1 r1
end L1
