/-! ORDERS: the model -/
theorem o_a : ∀ i, i < 5 → (4 : Int32) - nI i = nI (4 - i) ∧ ¬ (4 : Int32) - nI i < 0 ∧ (4 : Int32) - nI i + Int32.ofInt (-1) = 4 - nI (i + 1) := by decide +kernel
theorem dD_lt (n d : Nat) : dD n d < 5 := Nat.mod_lt _ (by decide)
theorem pm_inj {i j : Nat} (hi : i < 120) (hj : j < 120) (h : pm i = pm j) : i = j := by
  rcases Nat.lt_trichotomy i j with z | z | z
  · have := o_8 z hj; omega
  · exact z
  · have := o_8 z hi; omega
section O2
variable {X : aX} {m : aMem} {A : aA} {K : Int32 → aMem → Prop}
theorem Fr.kp {m' : aMem} (f : Fr 68 70 m m') : KM m m' := ⟨fun q hq => f.1 q (by omega), fun q hq => f.2 q (by omega), fun i _ _ => by rw [f.1 53 (by omega)]⟩
theorem Fr.sm {m' : aMem} (f : Fr 68 70 m m') : sgM m' = sgM m := by
  unfold sgM
  rw [f.1 53 (by omega), f.1 59 (by omega), f.1 60 (by omega)]
def ST (m : aMem) (n i : Nat) : Prop := ∀ e, e < i → m.1 68 (dD n e) = nI (4 - e)
theorem ST.pl {j : Nat} (hj : j < 120) (h : ST m (pm j) 5) : PL m 68 j := fun u hu => by
  have z := o_2 j hj u hu
  have y := h (4 - plO j u) (by omega)
  rw [show dD (pm j) (4 - plO j u) = u from z.1, show 4 - (4 - plO j u) = plO j u by omega] at y
  exact y
theorem d_isOrder {n : Nat} (hn : n < 3125) (h1 : ∀ m', Fr 68 69 m m' → isO n → ST m' n 5 → K 1 m') (h0 : ∀ m', Fr 68 69 m m' → ¬ isO n → K 0 m') : gCi X 155 [.ref 53, .int (nI n)] m K := by
  refine g_inI rfl ?_
  have loop : ∀ (d i : Nat) (m1 : aMem), i + d = 5 → Fr 68 69 m m1 → (isO n → ST m1 n i) → gG X 155 7 [.ref 53, .int (nI n), .int (nI (bn n i)), .int (nI (n / 5 ^ i)), .int (4 - nI i)] [] m1 (fun r m' => ∃ v, r = some (.int v) ∧ K v m') := by
    intro d
    induction d with
    | zero =>
      intro i m1 hd hF hS
      have hi : i = 5 := by omega
      subst hi
      refine g_iload (pc' := 9) rfl rfl rfl ?_
      refine g_if_lt (pc' := 12) (t := 40) rfl rfl rfl (fun c_9 => ?_) (fun c_9 => absurd (by decide) c_9)
      refine g_iload_n (pc' := 41) rfl rfl rfl ?_
      refine g_bipush (pc' := 43) (v := 31) rfl rfl (by decide) ?_
      have bl := bn_lt (n := n) 5
      refine g_icmp_ne (pc' := 46) (t := 50) rfl rfl rfl (fun c_43 => ?_) (fun c_43 => ?_)
      · refine g_iconst (pc' := 51) (v := 0) rfl rfl (by decide) ?_
        exact g_zreturn rfl rfl (by decide) (h0 m1 hF (fun z => c_43 (by rw [show bn n 5 = 31 from z]; rfl)))
      · refine g_iconst (pc' := 47) (v := 1) rfl rfl (by decide) ?_
        refine g_goto (pc' := 51) rfl rfl ?_
        exact g_zreturn rfl rfl (by decide) (h1 m1 hF ((nI_eq (b := 31) (by omega) (by decide)).mp c_43) (hS ((nI_eq (b := 31) (by omega) (by decide)).mp c_43)))
    | succ d ih =>
      intro i m1 hd hF hS
      have hlt : i < 5 := by omega
      have oa := o_a i hlt
      have nl : n / 5 ^ i < 2 ^ 31 := Nat.lt_of_le_of_lt (Nat.div_le_self _ _) (by omega)
      refine g_iload (pc' := 9) rfl rfl rfl ?_
      refine g_if_lt (pc' := 12) (t := 40) rfl rfl rfl (fun c_9 => absurd c_9 oa.2.1) (fun c_9 => ?_)
      refine g_aload_n (pc' := 13) rfl rfl rfl ?_
      refine g_getr (pc' := 16) rfl rfl (f_11_27) ?_
      refine g_iload_n (pc' := 17) rfl rfl rfl ?_
      refine g_iconst (pc' := 18) (v := 5) rfl rfl (by decide) ?_
      refine g_irem (pc' := 19) rfl rfl (by decide) ?_
      refine g_vi (y := nI (dD n i)) (i_rem (d := 5) nl (by decide) (by decide)) ?_
      refine g_iload (pc' := 21) rfl rfl rfl ?_
      refine g_iast (pc' := 22) rfl rfl (a_68) (k := dD n i) (dD_lt n i) rfl ?_
      refine g_iload_n (pc' := 23) rfl rfl rfl ?_
      refine g_iconst (pc' := 24) (v := 1) rfl rfl (by decide) ?_
      refine g_iload_n (pc' := 25) rfl rfl rfl ?_
      refine g_iconst (pc' := 26) (v := 5) rfl rfl (by decide) ?_
      refine g_irem (pc' := 27) rfl rfl (by decide) ?_
      refine g_vi (y := nI (dD n i)) (i_rem (d := 5) nl (by decide) (by decide)) ?_
      refine g_ishl (pc' := 28) rfl rfl ?_
      refine g_ior (pc' := 29) rfl rfl ?_
      refine g_vi (y := nI (bn n (i + 1))) (by rw [show (1 : Int32) <<< (nI (dD n i) &&& 31) = nI (2 ^ dD n i) from bit_nI (by have := dD_lt n i; omega), nI_or]; rfl) ?_
      refine g_istore_n (pc' := 30) rfl rfl rfl ?_
      refine g_iload_n (pc' := 31) rfl rfl rfl ?_
      refine g_iconst (pc' := 32) (v := 5) rfl rfl (by decide) ?_
      refine g_idiv (pc' := 33) rfl rfl (by decide) ?_
      refine g_vi (y := nI (n / 5 ^ (i + 1))) (by rw [show (5 : Int32) = nI 5 from rfl, i_div nl (by decide) (by decide), Nat.div_div_eq_div_mul, ← Nat.pow_succ]) ?_
      refine g_istore_n (pc' := 34) rfl rfl rfl ?_
      refine g_iinc (pc' := 37) (v := 4 - nI (i + 1)) rfl rfl rfl (oa.2.2) rfl ?_
      refine g_goto (pc' := 7) rfl rfl ?_
      exact ih (i + 1) _ (by omega) (hF.s (by omega) (by omega)) (fun ho e he => by
        show am_wi m1.1 68 (dD n i) (4 - nI i) 68 (dD n e) = _
        rw [am_wi_s]
        by_cases z : e = i
        · rw [z, upd_at]; exact oa.1
        · rw [upd_ne (o_4 n hn ho i hlt e (by omega))]; exact hS ho e (by omega))
  refine g_iconst (pc' := 1) (v := 0) rfl rfl (by decide) ?_
  refine g_istore_n (pc' := 2) rfl rfl rfl ?_
  refine g_iload_n (pc' := 3) rfl rfl rfl ?_
  refine g_vi (y := nI (n / 5 ^ 0)) (by rw [Nat.pow_zero, Nat.div_one]) ?_
  refine g_istore_n (pc' := 4) rfl rfl rfl ?_
  refine g_iconst (pc' := 5) (v := 4) rfl rfl (by decide) ?_
  refine g_vi (y := 4 - nI 0) (by decide) ?_
  refine g_istore (pc' := 7) rfl rfl rfl ?_
  exact loop 5 0 m rfl Fr.rf (fun _ e he => absurd he (Nat.not_lt_zero _))
theorem d_isFit {T : aSg} {n : Nat} (hn : n < 3125) (hT : sgM m = T) (hW : WT T) (h1 : ∀ m' j, Fr 68 69 m m' → j < 120 → pm j = n → fitO T j → PL m' 68 j → K 1 m') (h0 : ∀ m', Fr 68 69 m m' → (∀ j, j < 120 → pm j = n → ¬ fitO T j) → K 0 m') : gCi X 156 [.ref 53, .int (nI n)] m K := by
  refine g_inI rfl ?_
  obtain ⟨w1, w2, w3⟩ := hW
  have e0 : m.1 53 8 = nI (ix T.1) := by rw [← w1, ← hT]; rfl
  have e1 : ∀ k, k < ix T.1 → m.1 59 k = nI (ix (T.2.1 k)) := fun k hk => by rw [← (w3 k hk).1, ← hT]; exact (cut_at (by omega)).symm
  have e2 : ∀ k, k < ix T.1 → m.1 60 k = nI (ix (T.2.2 k)) := fun k hk => by rw [← (w3 k hk).2.1, ← hT]; exact (cut_at (by omega)).symm
  have loop0 : ∀ (d i : Nat) (m1 : aMem), i + d = ix T.1 → Fr 68 69 m m1 → (∀ j, j < 120 → pm j = n → ¬ fitO T j) → gG X 156 8 [.ref 53, .int (nI n), .int 0, .int (nI i)] [] m1 (fun r m' => ∃ v, r = some (.int v) ∧ K v m') := by
    intro d
    induction d with
    | zero =>
      intro i m1 hd f1 hj
      have hi : i = ix T.1 := by omega
      have hi2 : ix T.1 ≤ i := by omega
      refine g_iload_n (pc' := 9) rfl rfl rfl ?_
      refine g_aload_n (pc' := 10) rfl rfl rfl ?_
      refine g_geti (pc' := 13) rfl rfl (i_11_8) ?_
      refine g_vi (y := nI (ix T.1)) ((congrFun (f1.1 53 (by omega)) 8).trans e0) ?_
      refine g_icmp_ge (pc' := 16) (t := 57) rfl rfl rfl (fun c_13 => ?_) (fun c_13 => absurd (nI_le hi2 (by omega)) c_13)
      refine g_iload_n (pc' := 58) rfl rfl rfl ?_
      exact g_zreturn rfl rfl (by decide) (h0 m1 f1 hj)
    | succ d ih =>
      intro i m1 hd f1 hj
      have hlt : i < ix T.1 := by omega
      refine g_iload_n (pc' := 9) rfl rfl rfl ?_
      refine g_aload_n (pc' := 10) rfl rfl rfl ?_
      refine g_geti (pc' := 13) rfl rfl (i_11_8) ?_
      refine g_vi (y := nI (ix T.1)) ((congrFun (f1.1 53 (by omega)) 8).trans e0) ?_
      refine g_icmp_ge (pc' := 16) (t := 57) rfl rfl rfl (fun c_13 => absurd c_13 (nI_ge hlt (by omega))) (fun c_13 => ?_)
      refine g_iload_n (pc' := 17) rfl rfl rfl ?_
      refine g_if_eq (pc' := 20) (t := 49) rfl rfl rfl (fun _ => ?_) (fun c => absurd c (by decide))
      refine g_iconst (pc' := 50) (v := 0) rfl rfl (by decide) ?_
      refine g_istore_n (pc' := 51) rfl rfl rfl ?_
      refine g_iinc (pc' := 54) (v := nI (i + 1)) rfl rfl rfl (nI_1 i) rfl ?_
      refine g_goto (pc' := 8) rfl rfl ?_
      exact ih (i + 1) m1 (by omega) f1 hj
  have loop1 : ∀ (d i : Nat) (m1 : aMem) (j : Nat), i + d = ix T.1 → Fr 68 69 m m1 → j < 120 → pm j = n → PL m1 68 j → fitN T j i → gG X 156 8 [.ref 53, .int (nI n), .int 1, .int (nI i)] [] m1 (fun r m' => ∃ v, r = some (.int v) ∧ K v m') := by
    intro d
    induction d with
    | zero =>
      intro i m1 j hd f1 hj ej hP hf
      have hi : i = ix T.1 := by omega
      have hi2 : ix T.1 ≤ i := by omega
      refine g_iload_n (pc' := 9) rfl rfl rfl ?_
      refine g_aload_n (pc' := 10) rfl rfl rfl ?_
      refine g_geti (pc' := 13) rfl rfl (i_11_8) ?_
      refine g_vi (y := nI (ix T.1)) ((congrFun (f1.1 53 (by omega)) 8).trans e0) ?_
      refine g_icmp_ge (pc' := 16) (t := 57) rfl rfl rfl (fun c_13 => ?_) (fun c_13 => absurd (nI_le hi2 (by omega)) c_13)
      refine g_iload_n (pc' := 58) rfl rfl rfl ?_
      exact g_zreturn rfl rfl (by decide) (h1 m1 j f1 hj ej (by rw [hi] at hf; exact hf) hP)
    | succ d ih =>
      intro i m1 j hd f1 hj ej hP hf
      have hlt : i < ix T.1 := by omega
      obtain ⟨q1, q2, q3, q4, q5⟩ := w3 i hlt
      refine g_iload_n (pc' := 9) rfl rfl rfl ?_
      refine g_aload_n (pc' := 10) rfl rfl rfl ?_
      refine g_geti (pc' := 13) rfl rfl (i_11_8) ?_
      refine g_vi (y := nI (ix T.1)) ((congrFun (f1.1 53 (by omega)) 8).trans e0) ?_
      refine g_icmp_ge (pc' := 16) (t := 57) rfl rfl rfl (fun c_13 => absurd c_13 (nI_ge hlt (by omega))) (fun c_13 => ?_)
      refine g_iload_n (pc' := 17) rfl rfl rfl ?_
      refine g_if_eq (pc' := 20) (t := 49) rfl rfl rfl (fun c => absurd c (by decide)) (fun _ => ?_)
      refine g_aload_n (pc' := 21) rfl rfl rfl ?_
      refine g_getr (pc' := 24) rfl rfl (f_11_27) ?_
      refine g_aload_n (pc' := 25) rfl rfl rfl ?_
      refine g_getr (pc' := 28) rfl rfl (f_11_6) ?_
      refine g_iload_n (pc' := 29) rfl rfl rfl ?_
      refine g_iald (pc' := 30) rfl rfl (a_59) (k := i) (by omega) rfl ?_
      refine g_vi (y := nI (ix (T.2.1 i))) (by rw [f1.1 59 (by omega)]; exact e1 i hlt) ?_
      refine g_iald (pc' := 31) rfl rfl (a_68) (k := ix (T.2.1 i)) (by omega) rfl ?_
      refine g_vi (y := nI (plO j (ix (T.2.1 i)))) (hP _ q3) ?_
      refine g_aload_n (pc' := 32) rfl rfl rfl ?_
      refine g_getr (pc' := 35) rfl rfl (f_11_27) ?_
      refine g_aload_n (pc' := 36) rfl rfl rfl ?_
      refine g_getr (pc' := 39) rfl rfl (f_11_7) ?_
      refine g_iload_n (pc' := 40) rfl rfl rfl ?_
      refine g_iald (pc' := 41) rfl rfl (a_60) (k := i) (by omega) rfl ?_
      refine g_vi (y := nI (ix (T.2.2 i))) (by rw [f1.1 60 (by omega)]; exact e2 i hlt) ?_
      refine g_iald (pc' := 42) rfl rfl (a_68) (k := ix (T.2.2 i)) (by omega) rfl ?_
      refine g_vi (y := nI (plO j (ix (T.2.2 i)))) (hP _ q4) ?_
      have p3 := (o_2 j hj _ q3).2
      have p4 := (o_2 j hj _ q4).2
      refine g_icmp_ge (pc' := 45) (t := 49) rfl rfl rfl (fun c_42 => ?_) (fun c_42 => ?_)
      · refine g_iconst (pc' := 50) (v := 0) rfl rfl (by decide) ?_
        refine g_istore_n (pc' := 51) rfl rfl rfl ?_
        refine g_iinc (pc' := 54) (v := nI (i + 1)) rfl rfl rfl (nI_1 i) rfl ?_
        refine g_goto (pc' := 8) rfl rfl ?_
        exact loop0 d (i + 1) m1 (by omega) f1 (fun j2 hj2 ej2 z => by
          have e : j2 = j := pm_inj hj2 hj (ej2.trans ej.symm)
          rw [e] at z
          have a := z i hlt
          have b := (nI_leI (by omega) (by omega)).mp c_42
          exact q5 (o_3 hj q3 q4 (by omega)))
      · refine g_iconst (pc' := 46) (v := 1) rfl rfl (by decide) ?_
        refine g_goto (pc' := 50) rfl rfl ?_
        refine g_istore_n (pc' := 51) rfl rfl rfl ?_
        refine g_iinc (pc' := 54) (v := nI (i + 1)) rfl rfl rfl (nI_1 i) rfl ?_
        refine g_goto (pc' := 8) rfl rfl ?_
        exact ih (i + 1) m1 j (by omega) f1 hj ej hP (fun k hk => by
          by_cases e : k = i
          · rw [e]; exact Nat.le_of_lt (Nat.not_le.mp (fun z => c_42 (nI_le z (by omega))))
          · exact hf k (by omega))
  refine g_aload_n (pc' := 1) rfl rfl rfl ?_
  refine g_iload_n (pc' := 2) rfl rfl rfl ?_
  refine g_calli (pc' := 5) rfl rfl rfl rfl (Or.inr rfl) ?_
  refine d_isOrder hn (fun m1 f1 ho hs => ?_) (fun m1 f1 ho => ?_)
  · refine g_istore_n (pc' := 6) rfl rfl rfl ?_
    refine g_iconst (pc' := 7) (v := 0) rfl rfl (by decide) ?_
    refine g_istore_n (pc' := 8) rfl rfl rfl ?_
    obtain ⟨j, hj, ej⟩ := o_5 n hn ho
    exact loop1 (ix T.1) 0 m1 j (by omega) f1 hj ej (ST.pl hj (ej ▸ hs)) (fun k hk => absurd hk (Nat.not_lt_zero _))
  · refine g_istore_n (pc' := 6) rfl rfl rfl ?_
    refine g_iconst (pc' := 7) (v := 0) rfl rfl (by decide) ?_
    refine g_istore_n (pc' := 8) rfl rfl rfl ?_
    exact loop0 (ix T.1) 0 m1 (by omega) f1 (fun j hj ej => absurd (ej ▸ (o_6 j hj).1) ho)
theorem d_rowOf {n : Nat} (hn : n < 3125) (h : K (nI (rowM n)) m) : gCi X 157 [.int (nI n)] m K := by
  refine g_inI rfl ?_
  refine g_iload_n (pc' := 1) rfl rfl rfl ?_
  refine g_sipush (pc' := 4) (v := 625) rfl rfl (by decide) ?_
  refine g_idiv (pc' := 5) rfl rfl (by decide) ?_
  refine g_vi (y := nI (n / 625)) (i_div (d := 625) (by omega) (by decide) (by decide)) ?_
  refine g_sipush (pc' := 8) (v := 10000) rfl rfl (by decide) ?_
  refine g_imul (pc' := 9) rfl rfl ?_
  refine g_vi (y := nI (n / 625 * 10000)) (pk_mul _ 10000) ?_
  refine g_iload_n (pc' := 10) rfl rfl rfl ?_
  refine g_bipush (pc' := 12) (v := 125) rfl rfl (by decide) ?_
  refine g_idiv (pc' := 13) rfl rfl (by decide) ?_
  refine g_vi (y := nI (n / 125)) (i_div (d := 125) (by omega) (by decide) (by decide)) ?_
  refine g_iconst (pc' := 14) (v := 5) rfl rfl (by decide) ?_
  refine g_irem (pc' := 15) rfl rfl (by decide) ?_
  refine g_vi (y := nI (n / 125 % 5)) (i_rem (d := 5) (by omega) (by decide) (by decide)) ?_
  refine g_sipush (pc' := 18) (v := 1000) rfl rfl (by decide) ?_
  refine g_imul (pc' := 19) rfl rfl ?_
  refine g_vi (y := nI (n / 125 % 5 * 1000)) (pk_mul _ 1000) ?_
  refine g_iadd (pc' := 20) rfl rfl ?_
  refine g_vi (y := nI (n / 625 * 10000 + n / 125 % 5 * 1000)) (nI_add _ _) ?_
  refine g_iload_n (pc' := 21) rfl rfl rfl ?_
  refine g_bipush (pc' := 23) (v := 25) rfl rfl (by decide) ?_
  refine g_idiv (pc' := 24) rfl rfl (by decide) ?_
  refine g_vi (y := nI (n / 25)) (i_div (d := 25) (by omega) (by decide) (by decide)) ?_
  refine g_iconst (pc' := 25) (v := 5) rfl rfl (by decide) ?_
  refine g_irem (pc' := 26) rfl rfl (by decide) ?_
  refine g_vi (y := nI (n / 25 % 5)) (i_rem (d := 5) (by omega) (by decide) (by decide)) ?_
  refine g_bipush (pc' := 28) (v := 100) rfl rfl (by decide) ?_
  refine g_imul (pc' := 29) rfl rfl ?_
  refine g_vi (y := nI (n / 25 % 5 * 100)) (pk_mul _ 100) ?_
  refine g_iadd (pc' := 30) rfl rfl ?_
  refine g_vi (y := nI (n / 625 * 10000 + n / 125 % 5 * 1000 + n / 25 % 5 * 100)) (nI_add _ _) ?_
  refine g_iload_n (pc' := 31) rfl rfl rfl ?_
  refine g_iconst (pc' := 32) (v := 5) rfl rfl (by decide) ?_
  refine g_idiv (pc' := 33) rfl rfl (by decide) ?_
  refine g_vi (y := nI (n / 5)) (i_div (d := 5) (by omega) (by decide) (by decide)) ?_
  refine g_iconst (pc' := 34) (v := 5) rfl rfl (by decide) ?_
  refine g_irem (pc' := 35) rfl rfl (by decide) ?_
  refine g_vi (y := nI (n / 5 % 5)) (i_rem (d := 5) (by omega) (by decide) (by decide)) ?_
  refine g_bipush (pc' := 37) (v := 10) rfl rfl (by decide) ?_
  refine g_imul (pc' := 38) rfl rfl ?_
  refine g_vi (y := nI (n / 5 % 5 * 10)) (pk_mul _ 10) ?_
  refine g_iadd (pc' := 39) rfl rfl ?_
  refine g_vi (y := nI (n / 625 * 10000 + n / 125 % 5 * 1000 + n / 25 % 5 * 100 + n / 5 % 5 * 10)) (nI_add _ _) ?_
  refine g_iload_n (pc' := 40) rfl rfl rfl ?_
  refine g_iconst (pc' := 41) (v := 5) rfl rfl (by decide) ?_
  refine g_irem (pc' := 42) rfl rfl (by decide) ?_
  refine g_vi (y := nI (n % 5)) (i_rem (d := 5) (by omega) (by decide) (by decide)) ?_
  refine g_iadd (pc' := 43) rfl rfl ?_
  refine g_vi (y := nI (rowM n)) (nI_add _ _) ?_
  exact g_ireturn rfl rfl (h)
theorem d_orders {x : Int32} (hM : MI m A) (hW : WT (aT A)) (h : ∀ m', Fr 53 73 m m' → MI m' (r_orders A x).2 → K (r_orders A x).1 m') : gCi X 158 [.ref 53, .int x] m K := by
  refine g_inI rfl ?_
  have et := hM.2.2.2.1
  have loop : ∀ (d i : Nat) (m1 : aMem) (g : Nat), i + d = 3125 → Fr 68 69 m m1 → At i g → (¬ x = -1 → fdO (aT A) x (120 - g) g (coN (aT A) g) = fdO (aT A) x 120 0 0) → gG X 158 4 [.ref 53, .int x, .int (nI (coN (aT A) g)), .int (nI i)] [] m1 (fun r m' => ∃ v, r = some (.int v) ∧ K v m') := by
    intro d
    induction d with
    | zero =>
      intro i m1 g hd hF hA hr
      have hi : i = 3125 := by omega
      subst hi
      refine g_iload_n (pc' := 5) rfl rfl rfl ?_
      refine g_sipush (pc' := 8) (v := 3125) rfl rfl (by decide) ?_
      refine g_icmp_ge (pc' := 11) (t := 38) rfl rfl rfl (fun c_8 => ?_) (fun c_8 => absurd (by decide) c_8)
      have eg := at_e hA
      subst eg
      refine g_iload_n (pc' := 39) rfl rfl rfl ?_
      refine g_iconst (pc' := 40) (v := -1) rfl rfl (by decide) ?_
      refine g_icmp_ne (pc' := 43) (t := 47) rfl rfl rfl (fun c_40 => ?_) (fun c_40 => ?_)
      · refine g_bipush (pc' := 49) (v := -6) rfl rfl (by decide) ?_
        exact g_ireturn rfl rfl (mf h (by unfold r_orders; rw [if_neg c_40, ← hr c_40]; rfl) (Fr.kp (hF.wide (by decide) (by decide) : Fr 68 70 m m1)).fr ((Fr.kp (hF.wide (by decide) (by decide) : Fr 68 70 m m1)).mi hM ((((hF.wide (by decide) (by decide) : Fr 68 70 m m1)).st (p := 53) (by omega)).trans hM.1)))
      · refine g_iload_n (pc' := 44) rfl rfl rfl ?_
        refine g_goto (pc' := 49) rfl rfl ?_
        exact g_ireturn rfl rfl (mf h (by unfold r_orders; rw [if_pos c_40]) (Fr.kp (hF.wide (by decide) (by decide) : Fr 68 70 m m1)).fr ((Fr.kp (hF.wide (by decide) (by decide) : Fr 68 70 m m1)).mi hM ((((hF.wide (by decide) (by decide) : Fr 68 70 m m1)).st (p := 53) (by omega)).trans hM.1)))
    | succ d ih =>
      intro i m1 g hd hF hA hr
      have hlt : i < 3125 := by omega
      refine g_iload_n (pc' := 5) rfl rfl rfl ?_
      refine g_sipush (pc' := 8) (v := 3125) rfl rfl (by decide) ?_
      refine g_icmp_ge (pc' := 11) (t := 38) rfl rfl rfl (fun c_8 => absurd c_8 (nI_ge (b := 3125) hlt (by decide))) (fun c_8 => ?_)
      refine g_aload_n (pc' := 12) rfl rfl rfl ?_
      refine g_iload_n (pc' := 13) rfl rfl rfl ?_
      refine g_calli (pc' := 16) rfl rfl rfl rfl (Or.inr rfl) ?_
      refine d_isFit hlt ((Fr.sm (hF.wide (by decide) (by decide) : Fr 68 70 m m1)).trans et) hW (fun m2 j f2 hj ej q p2 => ?_) (fun m2 f2 hq => ?_)
      · refine g_if_eq (pc' := 19) (t := 32) rfl rfl rfl (fun c => absurd c (by decide)) (fun _ => ?_)
        obtain ⟨hg, eg, hA2⟩ := at_o hA hlt (ej ▸ (o_6 j hj).1)
        have e : j = g := pm_inj hj hg (ej.trans eg.symm)
        subst e
        have cl := coN_le (aT A) j
        refine g_iload_n (pc' := 20) rfl rfl rfl ?_
        refine g_iload_n (pc' := 21) rfl rfl rfl ?_
        refine g_icmp_ne (pc' := 24) (t := 29) rfl rfl rfl (fun c_21 => ?_) (fun c_21 => ?_)
        · refine g_iinc (pc' := 32) (v := nI (coN (aT A) j + 1)) rfl rfl rfl (nI_1 _) rfl ?_
          refine g_iinc (pc' := 35) (v := nI (i + 1)) rfl rfl rfl (nI_1 i) rfl ?_
          refine g_goto (pc' := 4) rfl rfl ?_
          have hh := ih (i + 1) m2 (j + 1) (by omega) (hF.tr f2) hA2 (fun z => by rw [← hr z, co_p q, show 120 - j = 120 - (j + 1) + 1 by omega, fdO, if_pos q, if_neg c_21])
          rw [co_p q] at hh
          exact hh
        · refine g_iload_n (pc' := 25) rfl rfl rfl ?_
          refine g_calli (pc' := 28) rfl rfl rfl rfl (Or.inl rfl) ?_
          refine d_rowOf hlt ?_
          exact g_ireturn rfl rfl (g_eq (mf h (show r_orders A x = (nI (rowN j), A) by
                have z : ¬ x = -1 := fun z => nI_ne1 (k := coN (aT A) j) (by omega) (c_21.trans z)
                unfold r_orders
                rw [if_neg z, ← hr z, show 120 - j = 120 - (j + 1) + 1 by omega, fdO, if_pos q, if_pos c_21]) (Fr.kp (((hF.tr f2).wide (by decide) (by decide) : Fr 68 70 m m2))).fr ((Fr.kp (((hF.tr f2).wide (by decide) (by decide) : Fr 68 70 m m2))).mi hM ((((((hF.tr f2).wide (by decide) (by decide) : Fr 68 70 m m2))).st (p := 53) (by omega)).trans hM.1))) (by rw [← ej, (o_6 j hj).2.2]) rfl)
      · refine g_if_eq (pc' := 19) (t := 32) rfl rfl rfl (fun _ => ?_) (fun c => absurd c (by decide))
        refine g_iinc (pc' := 35) (v := nI (i + 1)) rfl rfl rfl (nI_1 i) rfl ?_
        refine g_goto (pc' := 4) rfl rfl ?_
        by_cases ho : isO i
        · obtain ⟨hg, eg, hA2⟩ := at_o hA hlt ho
          have q := hq g hg eg
          have hh := ih (i + 1) m2 (g + 1) (by omega) (hF.tr f2) hA2 (fun z => by rw [← hr z, co_q q, show 120 - g = 120 - (g + 1) + 1 by omega, fdO, if_neg q])
          rw [co_q q] at hh
          exact hh
        · exact ih (i + 1) m2 g (by omega) (hF.tr f2) (at_n hA ho) hr
  refine g_iconst (pc' := 1) (v := 0) rfl rfl (by decide) ?_
  refine g_istore_n (pc' := 2) rfl rfl rfl ?_
  refine g_iconst (pc' := 3) (v := 0) rfl rfl (by decide) ?_
  refine g_istore_n (pc' := 4) rfl rfl rfl ?_
  exact loop 3125 0 m 0 rfl Fr.rf at_0 (fun _ => rfl)
end O2
