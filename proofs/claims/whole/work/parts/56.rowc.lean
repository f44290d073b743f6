/-! THE ROW -/
def nL (n : Nat) : Int64 := Int64.ofNat n
theorem nL_or (a b : Nat) : nL a ||| nL b = nL (a ||| b) := by
  apply Int64.toBitVec_inj.mp
  show BitVec.ofNat 64 a ||| BitVec.ofNat 64 b = BitVec.ofNat 64 (a ||| b)
  rw [BitVec.ofNat_or]
theorem nI_xor (a b : Nat) : nI a ^^^ nI b = nI (a ^^^ b) := by
  apply Int32.toBitVec_inj.mp
  show BitVec.ofNat 32 a ^^^ BitVec.ofNat 32 b = BitVec.ofNat 32 (a ^^^ b)
  rw [BitVec.ofNat_xor]
theorem lg_0 {x y : Int64} : lg_cmp x y = 0 ↔ x = y := by
  have h1 := lg_lt (x := x) (y := y)
  have h2 := lg_gt (x := x) (y := y)
  rw [Int32.lt_iff_toInt_lt, Int64.lt_iff_toInt_lt] at h1 h2
  rw [← Int32.toInt_inj, ← Int64.toInt_inj]
  have e0 : (0 : Int32).toInt = 0 := by decide
  omega
def gB (n k : Nat) : Nat := Wt (k - 1) ^^^ Wt (n - k - 2)
def Mk (n i : Nat) : Nat := fN (fun k a => a ||| 2 ^ gB n k) i 0
def mvF (n : Nat) : Nat → Nat → Int32
  | 0, _ => -6
  | d + 1, k => if gB n k = 0 then nI k else mvF n d (k + 1)
theorem gB_lt : ∀ n, n < 101 → ∀ k, k < n → gB n k < 16 := by decide +kernel
theorem shl_k : ∀ g, g < 16 → (1 : Int64) <<< ((nI g).toInt64 &&& 63) = nL (2 ^ g) := by decide +kernel
theorem bk_k2 : ∀ n, n < 100 → ∀ j, j < 11 → (((nL (Mk n n) >>> ((nI j).toInt64 &&& 63)) &&& 1 = 1) ↔ (Mk n n).testBit j = true) := by decide +kernel
theorem mex_k : ∀ n, n < 100 → Wt n < 11 ∧ (Mk n n).testBit (Wt n) = false ∧ ∀ j, j < Wt n → (Mk n n).testBit j = true := by decide +kernel
theorem mx_1 : ∀ k, k < 101 → (if (0 : Int32) < nI k - 1 then nI k - 1 else 0) = nI (k - 1) := by decide +kernel
theorem mx_2 : ∀ n, n < 101 → ∀ k, k < n → (if (0 : Int32) < nI n - nI k - 2 then nI n - nI k - 2 else 0) = nI (n - k - 2) := by decide +kernel
theorem row_0 : ∀ n, n < 100 → (mvF n n 0 = -6 ↔ Wt n = 0) := by decide +kernel
theorem wo_1 : ∀ k, k < 101 → (nI k - 1 ≤ 0 ↔ k - 1 = 0) ∧ (¬ k - 1 = 0 → nI k - 1 = nI (k - 1)) := by decide +kernel
theorem wo_2 : ∀ n, n < 101 → ∀ k, k < n → (nI n - nI k - 2 ≤ 0 ↔ n - k - 2 = 0) ∧ (¬ n - k - 2 = 0 → nI n - nI k - 2 = nI (n - k - 2)) := by decide +kernel
def r_row (A : aA) (x w : Int32) : Int32 × aA := if ¬ (0 ≤ x ∧ x ≤ 99) ∨ ¬ (0 ≤ w ∧ w ≤ 1) then (-2, A) else (if w = 1 then mvF (ix x) (ix x) 0 else if mvF (ix x) (ix x) 0 = -6 then 0 else 1, A)
section W1
variable {X : aX} {m : aMem} {A : aA} {K : Int32 → aMem → Prop} {j pc : Nat} {ls st : List Value} {Q : Option Value → aMem → Prop}
theorem g_vl {x y : Int64} (h : x = y) (k : gG X j pc ls (.long y :: st) m Q) : gG X j pc ls (.long x :: st) m Q := h ▸ k
theorem c_worthBehind {n k kn : Nat} (h1 : 1 ≤ kn) (hn : n ≤ kn) (h100 : kn ≤ 100) (hk : k < n) (hT : ∀ j, j < kn → m.1 31 j = nI (Wt j)) (h : K (nI (gB n k)) m) : gCi X 43 [.ref 30, .int (nI n), .int (nI k)] m K := by
  refine g_inI rfl ?_
  refine g_iconst (pc' := 1) (v := 0) rfl rfl (by decide) ?_
  refine g_iload_n (pc' := 2) rfl rfl rfl ?_
  refine g_iconst (pc' := 3) (v := 1) rfl rfl (by decide) ?_
  refine g_isub (pc' := 4) rfl rfl ?_
  refine g_max (pc' := 7) (b := 0) rfl rfl rfl ?_
  refine g_vi (y := nI (k - 1)) (mx_1 k (by omega)) ?_
  refine g_istore_n (pc' := 8) rfl rfl rfl ?_
  refine g_iconst (pc' := 9) (v := 0) rfl rfl (by decide) ?_
  refine g_iload_n (pc' := 10) rfl rfl rfl ?_
  refine g_iload_n (pc' := 11) rfl rfl rfl ?_
  refine g_isub (pc' := 12) rfl rfl ?_
  refine g_iconst (pc' := 13) (v := 2) rfl rfl (by decide) ?_
  refine g_isub (pc' := 14) rfl rfl ?_
  refine g_max (pc' := 17) (b := 0) rfl rfl rfl ?_
  refine g_vi (y := nI (n - k - 2)) (mx_2 n (by omega) k hk) ?_
  refine g_istore (pc' := 19) rfl rfl rfl ?_
  refine g_aload_n (pc' := 20) rfl rfl rfl ?_
  refine g_getr (pc' := 23) rfl rfl (f_6_0) ?_
  refine g_iload_n (pc' := 24) rfl rfl rfl ?_
  refine g_iald (pc' := 25) rfl rfl (a_31) (k := k - 1) (by omega) rfl ?_
  refine g_vi (y := nI (Wt (k - 1))) (hT _ (by omega)) ?_
  refine g_aload_n (pc' := 26) rfl rfl rfl ?_
  refine g_getr (pc' := 29) rfl rfl (f_6_0) ?_
  refine g_iload (pc' := 31) rfl rfl rfl ?_
  refine g_iald (pc' := 32) rfl rfl (a_31) (k := n - k - 2) (by omega) rfl ?_
  refine g_vi (y := nI (Wt (n - k - 2))) (hT _ (by omega)) ?_
  refine g_ixor (pc' := 33) rfl rfl ?_
  refine g_vi (y := nI (gB n k)) (nI_xor _ _) ?_
  exact g_ireturn rfl rfl (h)
theorem c_least {n kn : Nat} (h1 : 1 ≤ kn) (hn : n ≤ kn) (h100 : kn ≤ 100) (hn2 : n < 100) (hT : ∀ j, j < kn → m.1 31 j = nI (Wt j)) (h : K (nI (Wt n)) m) : gCi X 42 [.ref 30, .int (nI n)] m K := by
  refine g_inI rfl ?_
  obtain ⟨mx1, mx2, mx3⟩ := mex_k n hn2
  have loop2 : ∀ (d i : Nat), i + d = Wt n → gG X 42 32 [.ref 30, .int (nI n), .long (nL (Mk n n)), .null, .int (nI i)] [] m (fun r m' => ∃ v, r = some (.int v) ∧ K v m') := by
    intro d
    induction d with
    | zero =>
      intro i hd
      have hi : i = Wt n := by omega
      refine g_iload (pc' := 34) rfl rfl rfl ?_
      refine g_bipush (pc' := 36) (v := 62) rfl rfl (by decide) ?_
      refine g_icmp_ge (pc' := 39) (t := 56) rfl rfl rfl (fun c_36 => absurd c_36 (nI_ge (b := 62) (by omega) (by decide))) (fun c_36 => ?_)
      refine g_lload_n (pc' := 40) rfl rfl rfl ?_
      refine g_iload (pc' := 42) rfl rfl rfl ?_
      refine g_lshr (pc' := 43) rfl rfl ?_
      refine g_lconst (pc' := 44) (v := 1) rfl rfl (by decide) ?_
      refine g_land (pc' := 45) rfl rfl ?_
      refine g_lconst (pc' := 46) (v := 1) rfl rfl (by decide) ?_
      refine g_lcmp (pc' := 47) rfl rfl ?_
      refine g_if_ne (pc' := 50) (t := 56) rfl rfl rfl (fun c_47 => ?_) (fun c_47 => absurd ((bk_k2 n hn2 i (by omega)).mp (lg_0.mp c_47)) (by rw [hi, mx2]; decide))
      refine g_iload (pc' := 58) rfl rfl rfl ?_
      exact g_ireturn rfl rfl (g_eq h (by rw [hi]) rfl)
    | succ d ih =>
      intro i hd
      refine g_iload (pc' := 34) rfl rfl rfl ?_
      refine g_bipush (pc' := 36) (v := 62) rfl rfl (by decide) ?_
      refine g_icmp_ge (pc' := 39) (t := 56) rfl rfl rfl (fun c_36 => absurd c_36 (nI_ge (b := 62) (by omega) (by decide))) (fun c_36 => ?_)
      refine g_lload_n (pc' := 40) rfl rfl rfl ?_
      refine g_iload (pc' := 42) rfl rfl rfl ?_
      refine g_lshr (pc' := 43) rfl rfl ?_
      refine g_lconst (pc' := 44) (v := 1) rfl rfl (by decide) ?_
      refine g_land (pc' := 45) rfl rfl ?_
      refine g_lconst (pc' := 46) (v := 1) rfl rfl (by decide) ?_
      refine g_lcmp (pc' := 47) rfl rfl ?_
      refine g_if_ne (pc' := 50) (t := 56) rfl rfl rfl (fun c_47 => absurd (lg_0.mpr ((bk_k2 n hn2 i (by omega)).mpr (mx3 i (by omega)))) c_47) (fun c_47 => ?_)
      refine g_iinc (pc' := 53) (v := nI (i + 1)) rfl rfl rfl (nI_1 i) rfl ?_
      refine g_goto (pc' := 32) rfl rfl ?_
      exact ih (i + 1) (by omega)
  have loop : ∀ (d i : Nat), i + d = n → gG X 42 5 [.ref 30, .int (nI n), .long (nL (Mk n i)), .null, .int (nI i)] [] m (fun r m' => ∃ v, r = some (.int v) ∧ K v m') := by
    intro d
    induction d with
    | zero =>
      intro i hd
      have hi : i = n := by omega
      subst hi
      refine g_iload (pc' := 7) rfl rfl rfl ?_
      refine g_iload_n (pc' := 8) rfl rfl rfl ?_
      refine g_icmp_ge (pc' := 11) (t := 29) rfl rfl rfl (fun c_8 => ?_) (fun c_8 => absurd (nI_le (Nat.le_refl i) (by omega)) c_8)
      refine g_iconst (pc' := 30) (v := 0) rfl rfl (by decide) ?_
      refine g_istore (pc' := 32) rfl rfl rfl ?_
      exact loop2 (Wt i) 0 (by omega)
    | succ d ih =>
      intro i hd
      have hlt : i < n := by omega
      refine g_iload (pc' := 7) rfl rfl rfl ?_
      refine g_iload_n (pc' := 8) rfl rfl rfl ?_
      refine g_icmp_ge (pc' := 11) (t := 29) rfl rfl rfl (fun c_8 => absurd c_8 (nI_ge hlt (by omega))) (fun c_8 => ?_)
      refine g_lload_n (pc' := 12) rfl rfl rfl ?_
      refine g_lconst (pc' := 13) (v := 1) rfl rfl (by decide) ?_
      refine g_aload_n (pc' := 14) rfl rfl rfl ?_
      refine g_iload_n (pc' := 15) rfl rfl rfl ?_
      refine g_iload (pc' := 17) rfl rfl rfl ?_
      refine g_calli (pc' := 20) rfl rfl rfl rfl (Or.inr rfl) ?_
      refine c_worthBehind h1 hn h100 hlt hT ?_
      refine g_lshl (pc' := 21) rfl rfl ?_
      refine g_vl (y := nL (2 ^ gB n i)) (shl_k _ (gB_lt n (by omega) i hlt)) ?_
      refine g_lor (pc' := 22) rfl rfl ?_
      refine g_vl (y := nL (Mk n (i + 1))) (nL_or _ _) ?_
      refine g_lstore_n (pc' := 23) rfl rfl rfl ?_
      refine g_iinc (pc' := 26) (v := nI (i + 1)) rfl rfl rfl (nI_1 i) rfl ?_
      refine g_goto (pc' := 5) rfl rfl ?_
      exact ih (i + 1) (by omega)
  refine g_lconst (pc' := 1) (v := 0) rfl rfl (by decide) ?_
  refine g_lstore_n (pc' := 2) rfl rfl rfl ?_
  refine g_iconst (pc' := 3) (v := 0) rfl rfl (by decide) ?_
  refine g_istore (pc' := 5) rfl rfl rfl ?_
  exact loop n 0 (by omega)
theorem c_learn {K : aMem → Prop} {n : Nat} (hn : n < 100) (hR : RG m) (h : ∀ m' kn, Fr 30 32 m m' → 1 ≤ kn → kn ≤ 100 → n ≤ kn → m'.1 30 1 = nI kn → (∀ j, j < kn → m'.1 31 j = nI (Wt j)) → K m') : gCv X 41 [.ref 30, .int (nI n - 1)] m K := by
  refine g_inV rfl ?_
  have e1 : ∀ i, 1 ≤ i → i < 101 → (nI i ≤ nI n - 1 ↔ i < n) := fun i h0 h1 => by
    rcases Nat.eq_zero_or_pos n with z | z
    · subst z
      refine ⟨fun q => absurd q ?_, fun q => by omega⟩
      intro q
      rw [Int32.le_iff_toInt_le, nI_toInt (by omega)] at q
      have : (nI 0 - 1 : Int32).toInt = -1 := by decide
      omega
    · rw [show nI n - 1 = nI (n - 1) from pk_sub (a := n) (b := 1) (by omega), nI_leI (by omega) (by omega)]
      omega
  have loop : ∀ (d i : Nat) (m1 : aMem), n ≤ i + d → 1 ≤ i → i ≤ 100 → Fr 30 32 m m1 → m1.1 30 1 = nI i → (∀ j, j < i → m1.1 31 j = nI (Wt j)) → gG X 41 5 [.ref 30, .int (nI n - 1), .int (nI i)] [] m1 (fun r m' => r = none ∧ K m') := by
    intro d
    induction d with
    | zero =>
      intro i m1 hd h1 h100 hF h30 hT
      refine g_iload_n (pc' := 6) rfl rfl rfl ?_
      refine g_iload_n (pc' := 7) rfl rfl rfl ?_
      refine g_icmp_gt (pc' := 10) (t := 40) rfl rfl rfl (fun c_7 => ?_) (fun c_7 => absurd (i_nlt_le c_7) (fun z => by have := (e1 i h1 (by omega)).mp z; omega))
      exact g_return rfl rfl (h m1 i hF h1 h100 (by omega) h30 hT)
    | succ d ih =>
      intro i m1 hd h1 h100 hF h30 hT
      refine g_iload_n (pc' := 6) rfl rfl rfl ?_
      refine g_iload_n (pc' := 7) rfl rfl rfl ?_
      refine g_icmp_gt (pc' := 10) (t := 40) rfl rfl rfl (fun c_7 => ?_) (fun c_7 => ?_)
      · exact g_return rfl rfl (h m1 i hF h1 h100 (Nat.not_lt.mp (fun z => i_lt_nle c_7 ((e1 i h1 (by omega)).mpr z))) h30 hT)
      · have hin : i < n := (e1 i h1 (by omega)).mp (i_nlt_le c_7)
        refine g_iload_n (pc' := 11) rfl rfl rfl ?_
        refine g_bipush (pc' := 13) (v := 99) rfl rfl (by decide) ?_
        refine g_icmp_gt (pc' := 16) (t := 40) rfl rfl rfl (fun c_13 => absurd (nI_le (b := 99) (by omega) (by decide)) (i_lt_nle c_13)) (fun c_13 => ?_)
        refine g_aload_n (pc' := 17) rfl rfl rfl ?_
        refine g_getr (pc' := 20) rfl rfl (f_6_0) ?_
        refine g_iload_n (pc' := 21) rfl rfl rfl ?_
        refine g_aload_n (pc' := 22) rfl rfl rfl ?_
        refine g_iload_n (pc' := 23) rfl rfl rfl ?_
        refine g_calli (pc' := 26) rfl rfl rfl rfl (Or.inr rfl) ?_
        refine c_least (n := i) (kn := i) h1 (Nat.le_refl _) h100 (by omega) hT ?_
        refine g_iast (pc' := 27) rfl rfl (a_31) (k := i) (by omega) rfl ?_
        refine g_aload_n (pc' := 28) rfl rfl rfl ?_
        refine g_iload_n (pc' := 29) rfl rfl rfl ?_
        refine g_iconst (pc' := 30) (v := 1) rfl rfl (by decide) ?_
        refine g_iadd (pc' := 31) rfl rfl ?_
        refine g_vi (y := nI (i + 1)) (nI_1 i) ?_
        refine g_puti (pc' := 34) rfl rfl (i_6_1) ?_
        refine g_iinc (pc' := 37) (v := nI (i + 1)) rfl rfl rfl (nI_1 i) rfl ?_
        refine g_goto (pc' := 5) rfl rfl ?_
        exact ih (i + 1) _ (by omega) (by omega) (by omega) ((hF.s (by omega) (by omega)).s (by omega) (by omega)) (by show am_wi (am_wi m1.1 31 i (nI (Wt i))) 30 1 (nI (i + 1)) 30 1 = _; rw [am_wi_s, upd_at]) (fun j hj => by
          show am_wi (am_wi m1.1 31 i (nI (Wt i))) 30 1 (nI (i + 1)) 31 j = _
          rw [am_wi_n (by decide), am_wi_s]
          by_cases e : j = i
          · subst e; rw [upd_at]
          · rw [upd_ne e]; exact hT j (by omega))
  obtain ⟨kn, k1, k2, k3, k4⟩ := hR
  refine g_aload_n (pc' := 1) rfl rfl rfl ?_
  refine g_geti (pc' := 4) rfl rfl (i_6_1) ?_
  refine g_vi (y := nI kn) (k3) ?_
  refine g_istore_n (pc' := 5) rfl rfl rfl ?_
  exact loop 100 kn m (by omega) k1 k2 Fr.rf k3 k4
theorem c_firstMove {n : Nat} (hn : n < 100) (hR : RG m) (h : ∀ m', Fr 30 32 m m' → RG m' → K (mvF n n 0) m') : gCi X 40 [.ref 30, .int (nI n)] m K := by
  refine g_inI rfl ?_
  refine g_aload_n (pc' := 1) rfl rfl rfl ?_
  refine g_iload_n (pc' := 2) rfl rfl rfl ?_
  refine g_iconst (pc' := 3) (v := 1) rfl rfl (by decide) ?_
  refine g_isub (pc' := 4) rfl rfl ?_
  refine g_callv (pc' := 7) rfl rfl rfl rfl (Or.inr rfl) ?_
  refine c_learn hn hR (fun m1 kn f1 k1 k2 k3 k4 k5 => ?_)
  refine g_iconst (pc' := 8) (v := 0) rfl rfl (by decide) ?_
  refine g_istore_n (pc' := 9) rfl rfl rfl ?_
  have loop : ∀ (d i : Nat), i + d = n → mvF n d i = mvF n n 0 → gG X 40 9 [.ref 30, .int (nI n), .int (nI i)] [] m1 (fun r m' => ∃ v, r = some (.int v) ∧ K v m') := by
    intro d
    induction d with
    | zero =>
      intro i hd hr
      have hi : i = n := by omega
      subst hi
      refine g_iload_n (pc' := 10) rfl rfl rfl ?_
      refine g_iload_n (pc' := 11) rfl rfl rfl ?_
      refine g_icmp_ge (pc' := 14) (t := 31) rfl rfl rfl (fun c_11 => ?_) (fun c_11 => absurd (nI_le (Nat.le_refl i) (by omega)) c_11)
      refine g_bipush (pc' := 33) (v := -6) rfl rfl (by decide) ?_
      exact g_ireturn rfl rfl (g_eq (h m1 f1 ⟨kn, k1, k2, k4, k5⟩) (by rw [← hr]; rfl) rfl)
    | succ d ih =>
      intro i hd hr
      have hlt : i < n := by omega
      refine g_iload_n (pc' := 10) rfl rfl rfl ?_
      refine g_iload_n (pc' := 11) rfl rfl rfl ?_
      refine g_icmp_ge (pc' := 14) (t := 31) rfl rfl rfl (fun c_11 => absurd c_11 (nI_ge hlt (by omega))) (fun c_11 => ?_)
      refine g_aload_n (pc' := 15) rfl rfl rfl ?_
      refine g_iload_n (pc' := 16) rfl rfl rfl ?_
      refine g_iload_n (pc' := 17) rfl rfl rfl ?_
      refine g_calli (pc' := 20) rfl rfl rfl rfl (Or.inr rfl) ?_
      refine c_worthBehind k1 k3 k2 hlt k5 ?_
      have hg := gB_lt n (by omega) i hlt
      refine g_if_ne (pc' := 23) (t := 25) rfl rfl rfl (fun c_20 => ?_) (fun c_20 => ?_)
      · refine g_iinc (pc' := 28) (v := nI (i + 1)) rfl rfl rfl (nI_1 i) rfl ?_
        refine g_goto (pc' := 9) rfl rfl ?_
        exact ih (i + 1) (by omega) (by rw [← hr, mvF, if_neg (fun z => c_20 (by rw [z]; rfl))])
      · refine g_iload_n (pc' := 24) rfl rfl rfl ?_
        exact g_ireturn rfl rfl (g_eq (h m1 f1 ⟨kn, k1, k2, k4, k5⟩) (by rw [← hr, mvF, if_pos ((nI_eq (b := 0) (by omega) (by decide)).mp c_20)]) rfl)
  exact loop n 0 (by omega) rfl
theorem CI.row {m' : aMem} (h : CI m A) (f : Fr 30 32 m m') (hR : RG m') : CI m' A := by
  obtain ⟨h1, h2, h3, h4, h5, h6⟩ := h
  exact ⟨(f.st (by omega)).trans h1, by rw [f.i (by omega)]; exact h2, by rw [f.i (by omega)]; exact h3, (f.sg (by omega)).trans h4, f.im (by omega) h5, f.im (by omega) h6.1, hR⟩
theorem c_row {x w : Int32} (hC : CI m A) (h : ∀ m', Fr 1 53 m m' → CI m' (r_row A x w).2 → K (r_row A x w).1 m') : gCi X 94 [.ref 1, .int x, .int w] m K := by
  refine g_inI rfl ?_
  refine g_iload_n (pc' := 1) rfl rfl rfl ?_
  refine g_iconst (pc' := 2) (v := 0) rfl rfl (by decide) ?_
  refine g_bipush (pc' := 4) (v := 99) rfl rfl (by decide) ?_
  refine g_calli (pc' := 7) rfl rfl rfl rfl (Or.inl rfl) ?_
  refine c_isWithin (fun u1 u2 => ?_) (fun u0 => ?_)
  · refine g_if_eq (pc' := 10) (t := 19) rfl rfl rfl (fun c => absurd c (by decide)) (fun _ => ?_)
    refine g_iload_n (pc' := 11) rfl rfl rfl ?_
    refine g_iconst (pc' := 12) (v := 0) rfl rfl (by decide) ?_
    refine g_iconst (pc' := 13) (v := 1) rfl rfl (by decide) ?_
    refine g_calli (pc' := 16) rfl rfl rfl rfl (Or.inl rfl) ?_
    refine c_isWithin (fun w1 w2 => ?_) (fun w0 => ?_)
    · refine g_if_ne (pc' := 19) (t := 22) rfl rfl rfl (fun _ => ?_) (fun c => absurd c (by decide))
      obtain ⟨k, hk, ek⟩ := i_in (n := 99) (by decide) u1 u2
      have er : r_row A x w = (if w = 1 then mvF k k 0 else if mvF k k 0 = -6 then 0 else 1, A) := by unfold r_row; rw [if_neg (fun z => z.elim (nn ⟨u1, u2⟩) (nn ⟨w1, w2⟩)), ek, ix_nI (by omega)]
      subst ek
      refine g_aload_n (pc' := 23) rfl rfl rfl ?_
      refine g_getr (pc' := 26) rfl rfl (f_10_8) ?_
      refine g_iload_n (pc' := 27) rfl rfl rfl ?_
      refine g_calli (pc' := 30) rfl rfl rfl rfl (Or.inr rfl) ?_
      refine c_firstMove (by omega) hC.2.2.2.2.2.2 (fun m1 f1 r1 => ?_)
      have c1 := hC.row f1 r1
      refine g_istore_n (pc' := 31) rfl rfl rfl ?_
      refine g_iload_n (pc' := 32) rfl rfl rfl ?_
      refine g_iconst (pc' := 33) (v := 1) rfl rfl (by decide) ?_
      refine g_icmp_ne (pc' := 36) (t := 38) rfl rfl rfl (fun c_33 => ?_) (fun c_33 => ?_)
      · refine g_iload_n (pc' := 39) rfl rfl rfl ?_
        refine g_bipush (pc' := 41) (v := -6) rfl rfl (by decide) ?_
        refine g_icmp_ne (pc' := 44) (t := 48) rfl rfl rfl (fun c_41 => ?_) (fun c_41 => ?_)
        · refine g_iconst (pc' := 49) (v := 1) rfl rfl (by decide) ?_
          exact g_ireturn rfl rfl (g_eq (cf h er (f1.wide (by decide) (by decide)) c1) (by rw [if_neg c_33, if_neg c_41]) rfl)
        · refine g_iconst (pc' := 45) (v := 0) rfl rfl (by decide) ?_
          refine g_goto (pc' := 49) rfl rfl ?_
          exact g_ireturn rfl rfl (g_eq (cf h er (f1.wide (by decide) (by decide)) c1) (by rw [if_neg c_33, if_pos c_41]) rfl)
      · refine g_iload_n (pc' := 37) rfl rfl rfl ?_
        exact g_ireturn rfl rfl (g_eq (cf h er (f1.wide (by decide) (by decide)) c1) (by rw [if_pos c_33]) rfl)
    · refine g_if_ne (pc' := 19) (t := 22) rfl rfl rfl (fun c => absurd c (by decide)) (fun _ => ?_)
      refine g_bipush (pc' := 21) (v := -2) rfl rfl (by decide) ?_
      exact g_ireturn rfl rfl (cf h (by unfold r_row; rw [if_pos (Or.inr w0)]) Fr.rf hC)
  · refine g_if_eq (pc' := 10) (t := 19) rfl rfl rfl (fun _ => ?_) (fun c => absurd c (by decide))
    refine g_bipush (pc' := 21) (v := -2) rfl rfl (by decide) ?_
    exact g_ireturn rfl rfl (cf h (by unfold r_row; rw [if_pos (Or.inl u0)]) Fr.rf hC)
end W1
