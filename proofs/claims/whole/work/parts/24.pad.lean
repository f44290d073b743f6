/-! PAD -/
def sg (n : Nat) (f : Nat → Int32) (q : Nat) : Int32 := if q < n then f q else 0
def isL (x : Int32) : Bool := decide (65 ≤ x) && decide (x ≤ 74)
def isDg (x : Int32) : Bool := decide (48 ≤ x) && decide (x ≤ 51)
theorem i_rng {x lo hi : Int32} {a b : Nat} (ha : lo = nI a) (hb : hi = nI b) (hab : a ≤ b) (hb2 : b < 1000) (h1 : lo ≤ x) (h2 : x ≤ hi) : ∃ k, k < b - a + 1 ∧ x = nI (a + k) := by
  subst ha; subst hb
  have h0 : ¬ x < 0 := fun q => by
    have := i_lt_nle q
    exact this (by
      rw [Int32.le_iff_toInt_le] at h1 ⊢
      have e := nI_toInt (n := a) (by omega)
      have e0 : (0 : Int32).toInt = 0 := by decide
      omega)
  obtain ⟨j, hj, e⟩ := nI_of2 (nI_toInt (n := b) (by omega)) h0 h2
  subst e
  have := (nI_leI (by omega) (by omega)).mp h1
  exact ⟨j - a, by omega, by congr 1; omega⟩
theorem isL_k {x : Int32} (h : isL x = true) : ∃ k, k < 10 ∧ x = nI (65 + k) := by
  unfold isL at h
  rw [Bool.and_eq_true, decide_eq_true_eq, decide_eq_true_eq] at h
  exact i_rng (a := 65) (b := 74) rfl rfl (by decide) (by decide) h.1 h.2
theorem isDg_k {x : Int32} (h : isDg x = true) : ∃ k, k < 4 ∧ x = nI (48 + k) := by
  unfold isDg at h
  rw [Bool.and_eq_true, decide_eq_true_eq, decide_eq_true_eq] at h
  exact i_rng (a := 48) (b := 51) rfl rfl (by decide) (by decide) h.1 h.2
theorem isL_of {k : Nat} (h : k < 10) : isL (nI (65 + k)) = true := by
  unfold isL
  rw [Bool.and_eq_true, decide_eq_true_eq, decide_eq_true_eq]
  exact ⟨nI_le (a := 65) (by omega) (by omega), nI_le (b := 74) (by omega) (by omega)⟩
theorem isDg_of {k : Nat} (h : k < 4) : isDg (nI (48 + k)) = true := by
  unfold isDg
  rw [Bool.and_eq_true, decide_eq_true_eq, decide_eq_true_eq]
  exact ⟨nI_le (a := 48) (by omega) (by omega), nI_le (b := 51) (by omega) (by omega)⟩
theorem i_sub {k a : Nat} : nI (a + k) - nI a = nI k := by
  rw [pk_sub (by omega)]
  congr 1
  omega
theorem i_sub_in {x : Int32} {a b : Nat} (hb : b < 1000) (ha : a < 1000) (h : ∃ k, k < b + 1 ∧ x - nI a = nI k) : ∃ k, k < b + 1 ∧ x = nI (a + k) := by
  obtain ⟨k, hk, e⟩ := h
  exact ⟨k, hk, by rw [← nI_add, ← e, Int32.add_comm, Int32.sub_add_cancel]⟩
def faultAt (g : Nat → Int32) (q : Nat) : Int32 := if g q = 46 then -6 else if isL (g q) = true then (if g (q + 1) = 62 then (if isL (g (q + 2)) = true then -6 else nI (q + 2)) else if g (q + 1) = 42 ∨ isDg (g (q + 1)) = true then -6 else nI (q + 1)) else nI q
def kindAt (g : Nat → Int32) (q : Nat) : Nat := if g q = 46 then 3 else if g (q + 1) = 62 then 0 else if g (q + 1) = 42 then 1 else 2
def lenAt (g : Nat → Int32) (q : Nat) : Nat := if kindAt g q = 3 then 1 else if kindAt g q = 0 then 3 else 2
def findF (g : Nat → Int32) (n : Nat) : Nat → Nat → Int32
  | 0, _ => -6
  | d + 1, q => if q < n then (if faultAt g q = -6 then findF g n d (q + lenAt g q) else faultAt g q) else -6
theorem kindAt_lt (g : Nat → Int32) (q : Nat) : kindAt g q < 4 := by
  unfold kindAt
  split
  · decide
  · split
    · decide
    · split <;> decide
theorem lenAt_le (g : Nat → Int32) (q : Nat) : 1 ≤ lenAt g q ∧ lenAt g q ≤ 3 := by
  unfold lenAt
  split
  · decide
  · split <;> decide
section C5
variable {X : aX} {m : aMem} {K : Int32 → aMem → Prop} {n q : Nat}
theorem nI_ne1 {k : Nat} (h : k < 1000) : ¬ nI k = -1 := fun e => by
  have := congrArg Int32.toInt e
  rw [nI_toInt (by omega)] at this
  have e1 : (-1 : Int32).toInt = -1 := by decide
  omega
theorem nI_ne6 {k : Nat} (h : k < 1000) : ¬ nI k = -6 := fun e => by
  have := congrArg Int32.toInt e
  rw [nI_toInt (by omega)] at this
  have e1 : (-6 : Int32).toInt = -6 := by decide
  omega
theorem c_signAt (hn : m.1 8 1 = nI n) (h60 : n ≤ 60) (hq : q < 1000) (h : K (sg n (m.1 9) q) m) : gCi X 27 [.ref 8, .int (nI q)] m K := by
  refine g_inI rfl ?_
  refine g_iload_n (pc' := 1) rfl rfl rfl ?_
  refine g_if_lt (pc' := 4) (t := 21) rfl rfl rfl (fun c_1 => absurd c_1 (nI_pos (by omega))) (fun c_1 => ?_)
  refine g_iload_n (pc' := 5) rfl rfl rfl ?_
  refine g_aload_n (pc' := 6) rfl rfl rfl ?_
  refine g_geti (pc' := 9) rfl rfl (i_4_1) ?_
  refine g_vi (y := nI n) (hn) ?_
  refine g_icmp_ge (pc' := 12) (t := 21) rfl rfl rfl (fun c_9 => ?_) (fun c_9 => ?_)
  · refine g_iconst (pc' := 22) (v := 0) rfl rfl (by decide) ?_
    exact g_ireturn rfl rfl (g_eq h (by unfold sg; rw [if_neg (fun z => nI_ge z (by omega) c_9)]) rfl)
  · have hqn : q < n := Nat.not_le.mp (fun z => c_9 (nI_le z (by omega)))
    refine g_aload_n (pc' := 13) rfl rfl rfl ?_
    refine g_getr (pc' := 16) rfl rfl (f_4_0) ?_
    refine g_iload_n (pc' := 17) rfl rfl rfl ?_
    refine g_iald (pc' := 18) rfl rfl (a_9) (k := q) (by omega) rfl ?_
    refine g_goto (pc' := 22) rfl rfl ?_
    exact g_ireturn rfl rfl (g_eq h (by unfold sg; rw [if_pos hqn]) rfl)
theorem c_nutAt (hn : m.1 8 1 = nI n) (h60 : n ≤ 60) (hq : q < 1000) (h1 : ∀ k, k < 10 → sg n (m.1 9) q = nI (65 + k) → K (nI k) m) (h0 : isL (sg n (m.1 9) q) = false → K (-1) m) : gCi X 28 [.ref 8, .int (nI q)] m K := by
  refine g_inI rfl ?_
  refine g_aload_n (pc' := 1) rfl rfl rfl ?_
  refine g_iload_n (pc' := 2) rfl rfl rfl ?_
  refine g_calli (pc' := 5) rfl rfl rfl rfl (Or.inr rfl) ?_
  refine c_signAt hn h60 hq ?_
  refine g_bipush (pc' := 7) (v := 65) rfl rfl (by decide) ?_
  refine g_isub (pc' := 8) rfl rfl ?_
  refine g_topi (fun x hx => ?_)
  refine g_istore_n (pc' := 9) rfl rfl rfl ?_
  refine g_iload_n (pc' := 10) rfl rfl rfl ?_
  refine g_calli (pc' := 13) rfl rfl rfl rfl (Or.inl rfl) ?_
  refine c_isNut (fun k hk e => ?_) (fun z => ?_)
  · refine g_if_eq (pc' := 16) (t := 20) rfl rfl rfl (fun c => absurd c (by decide)) (fun _ => ?_)
    refine g_iload_n (pc' := 17) rfl rfl rfl ?_
    refine g_goto (pc' := 21) rfl rfl ?_
    exact g_ireturn rfl rfl (by
          obtain ⟨k2, hk2, e2⟩ := i_sub_in (a := 65) (b := 9) (by decide) (by decide) ⟨k, hk, hx.symm.trans e⟩
          have e3 : x = nI k2 := by rw [hx, e2]; exact i_sub
          exact g_eq (h1 k2 hk2 e2) e3 rfl)
  · refine g_if_eq (pc' := 16) (t := 20) rfl rfl rfl (fun _ => ?_) (fun c => absurd c (by decide))
    refine g_iconst (pc' := 21) (v := -1) rfl rfl (by decide) ?_
    exact g_ireturn rfl rfl (h0 (Bool.eq_false_iff.mpr (fun y => by
          obtain ⟨k, hk, e⟩ := isL_k y
          have e3 : x = nI k := by rw [hx, e]; exact i_sub
          exact z ⟨by rw [e3]; exact nI_pos' (by omega), by rw [e3]; exact nI_le (b := 9) (by omega) (by decide)⟩)))
theorem c_childAt (hn : m.1 8 1 = nI n) (h60 : n ≤ 60) (hq : q < 1000) (h1 : ∀ k, k < 4 → sg n (m.1 9) q = nI (48 + k) → K (nI k) m) (h0 : isDg (sg n (m.1 9) q) = false → K (-1) m) : gCi X 29 [.ref 8, .int (nI q)] m K := by
  refine g_inI rfl ?_
  refine g_aload_n (pc' := 1) rfl rfl rfl ?_
  refine g_iload_n (pc' := 2) rfl rfl rfl ?_
  refine g_calli (pc' := 5) rfl rfl rfl rfl (Or.inr rfl) ?_
  refine c_signAt hn h60 hq ?_
  refine g_bipush (pc' := 7) (v := 48) rfl rfl (by decide) ?_
  refine g_isub (pc' := 8) rfl rfl ?_
  refine g_topi (fun x hx => ?_)
  refine g_istore_n (pc' := 9) rfl rfl rfl ?_
  refine g_iload_n (pc' := 10) rfl rfl rfl ?_
  refine g_calli (pc' := 13) rfl rfl rfl rfl (Or.inl rfl) ?_
  refine c_isChild (fun k hk e => ?_) (fun z => ?_)
  · refine g_if_eq (pc' := 16) (t := 20) rfl rfl rfl (fun c => absurd c (by decide)) (fun _ => ?_)
    refine g_iload_n (pc' := 17) rfl rfl rfl ?_
    refine g_goto (pc' := 21) rfl rfl ?_
    exact g_ireturn rfl rfl (by
          obtain ⟨k2, hk2, e2⟩ := i_sub_in (a := 48) (b := 3) (by decide) (by decide) ⟨k, hk, hx.symm.trans e⟩
          have e3 : x = nI k2 := by rw [hx, e2]; exact i_sub
          exact g_eq (h1 k2 hk2 e2) e3 rfl)
  · refine g_if_eq (pc' := 16) (t := 20) rfl rfl rfl (fun _ => ?_) (fun c => absurd c (by decide))
    refine g_iconst (pc' := 21) (v := -1) rfl rfl (by decide) ?_
    exact g_ireturn rfl rfl (h0 (Bool.eq_false_iff.mpr (fun y => by
          obtain ⟨k, hk, e⟩ := isDg_k y
          have e3 : x = nI k := by rw [hx, e]; exact i_sub
          exact z ⟨by rw [e3]; exact nI_pos' (by omega), by rw [e3]; exact nI_le (b := 3) (by omega) (by decide)⟩)))
theorem c_faultOfActAt (hn : m.1 8 1 = nI n) (h60 : n ≤ 60) (hq : q < 100) (h : K (faultAt (sg n (m.1 9)) q) m) : gCi X 31 [.ref 8, .int (nI q)] m K := by
  refine g_inI rfl ?_
  refine g_aload_n (pc' := 1) rfl rfl rfl ?_
  refine g_iload_n (pc' := 2) rfl rfl rfl ?_
  refine g_calli (pc' := 5) rfl rfl rfl rfl (Or.inr rfl) ?_
  refine c_signAt hn h60 (by omega) ?_
  refine g_bipush (pc' := 7) (v := 46) rfl rfl (by decide) ?_
  refine g_icmp_ne (pc' := 10) (t := 13) rfl rfl rfl (fun c_7 => ?_) (fun c_7 => ?_)
  · refine g_aload_n (pc' := 14) rfl rfl rfl ?_
    refine g_iload_n (pc' := 15) rfl rfl rfl ?_
    refine g_calli (pc' := 18) rfl rfl rfl rfl (Or.inr rfl) ?_
    refine c_nutAt hn h60 (by omega) (fun a ha ea => ?_) (fun za => ?_)
    · refine g_iconst (pc' := 19) (v := -1) rfl rfl (by decide) ?_
      refine g_icmp_ne (pc' := 22) (t := 24) rfl rfl rfl (fun c_19 => ?_) (fun c_19 => absurd c_19 (nI_ne1 (by omega)))
      refine g_aload_n (pc' := 25) rfl rfl rfl ?_
      refine g_iload_n (pc' := 26) rfl rfl rfl ?_
      refine g_iconst (pc' := 27) (v := 1) rfl rfl (by decide) ?_
      refine g_iadd (pc' := 28) rfl rfl ?_
      refine g_vi (y := nI (q + 1)) (nI_1 q) ?_
      refine g_calli (pc' := 31) rfl rfl rfl rfl (Or.inr rfl) ?_
      refine c_signAt hn h60 (by omega) ?_
      refine g_bipush (pc' := 33) (v := 62) rfl rfl (by decide) ?_
      refine g_icmp_ne (pc' := 36) (t := 56) rfl rfl rfl (fun c_33 => ?_) (fun c_33 => ?_)
      · refine g_aload_n (pc' := 57) rfl rfl rfl ?_
        refine g_iload_n (pc' := 58) rfl rfl rfl ?_
        refine g_iconst (pc' := 59) (v := 1) rfl rfl (by decide) ?_
        refine g_iadd (pc' := 60) rfl rfl ?_
        refine g_vi (y := nI (q + 1)) (nI_1 q) ?_
        refine g_calli (pc' := 63) rfl rfl rfl rfl (Or.inr rfl) ?_
        refine c_signAt hn h60 (by omega) ?_
        refine g_bipush (pc' := 65) (v := 42) rfl rfl (by decide) ?_
        refine g_icmp_eq (pc' := 68) (t := 79) rfl rfl rfl (fun c_65 => ?_) (fun c_65 => ?_)
        · refine g_iconst (pc' := 80) (v := 1) rfl rfl (by decide) ?_
          refine g_goto (pc' := 84) rfl rfl ?_
          refine g_istore_n (pc' := 85) rfl rfl rfl ?_
          refine g_iload_n (pc' := 86) rfl rfl rfl ?_
          refine g_if_eq (pc' := 89) (t := 94) rfl rfl rfl (fun c => absurd c (by decide)) (fun _ => ?_)
          refine g_bipush (pc' := 91) (v := -6) rfl rfl (by decide) ?_
          refine g_goto (pc' := 97) rfl rfl ?_
          exact g_ireturn rfl rfl (g_eq h (by unfold faultAt; rw [if_neg c_7, if_pos (by rw [ea]; exact isL_of ha), if_neg c_33, if_pos (Or.inl c_65)]) rfl)
        · refine g_aload_n (pc' := 69) rfl rfl rfl ?_
          refine g_iload_n (pc' := 70) rfl rfl rfl ?_
          refine g_iconst (pc' := 71) (v := 1) rfl rfl (by decide) ?_
          refine g_iadd (pc' := 72) rfl rfl ?_
          refine g_vi (y := nI (q + 1)) (nI_1 q) ?_
          refine g_calli (pc' := 75) rfl rfl rfl rfl (Or.inr rfl) ?_
          refine c_childAt hn h60 (by omega) (fun d hd ed => ?_) (fun zd => ?_)
          · refine g_iconst (pc' := 76) (v := -1) rfl rfl (by decide) ?_
            refine g_icmp_eq (pc' := 79) (t := 83) rfl rfl rfl (fun c_76 => absurd c_76 (nI_ne1 (by omega))) (fun c_76 => ?_)
            refine g_iconst (pc' := 80) (v := 1) rfl rfl (by decide) ?_
            refine g_goto (pc' := 84) rfl rfl ?_
            refine g_istore_n (pc' := 85) rfl rfl rfl ?_
            refine g_iload_n (pc' := 86) rfl rfl rfl ?_
            refine g_if_eq (pc' := 89) (t := 94) rfl rfl rfl (fun c => absurd c (by decide)) (fun _ => ?_)
            refine g_bipush (pc' := 91) (v := -6) rfl rfl (by decide) ?_
            refine g_goto (pc' := 97) rfl rfl ?_
            exact g_ireturn rfl rfl (g_eq h (by unfold faultAt; rw [if_neg c_7, if_pos (by rw [ea]; exact isL_of ha), if_neg c_33, if_pos (Or.inr (by rw [ed]; exact isDg_of hd))]) rfl)
          · refine g_iconst (pc' := 76) (v := -1) rfl rfl (by decide) ?_
            refine g_icmp_eq (pc' := 79) (t := 83) rfl rfl rfl (fun _ => ?_) (fun c => absurd c (by decide))
            refine g_iconst (pc' := 84) (v := 0) rfl rfl (by decide) ?_
            refine g_istore_n (pc' := 85) rfl rfl rfl ?_
            refine g_iload_n (pc' := 86) rfl rfl rfl ?_
            refine g_if_eq (pc' := 89) (t := 94) rfl rfl rfl (fun _ => ?_) (fun c => absurd c (by decide))
            refine g_iload_n (pc' := 95) rfl rfl rfl ?_
            refine g_iconst (pc' := 96) (v := 1) rfl rfl (by decide) ?_
            refine g_iadd (pc' := 97) rfl rfl ?_
            refine g_vi (y := nI (q + 1)) (nI_1 q) ?_
            exact g_ireturn rfl rfl (g_eq h (by unfold faultAt; rw [if_neg c_7, if_pos (by rw [ea]; exact isL_of ha), if_neg c_33, if_neg (fun y => y.elim c_65 (by rw [zd]; decide))]) rfl)
      · refine g_aload_n (pc' := 37) rfl rfl rfl ?_
        refine g_iload_n (pc' := 38) rfl rfl rfl ?_
        refine g_iconst (pc' := 39) (v := 2) rfl rfl (by decide) ?_
        refine g_iadd (pc' := 40) rfl rfl ?_
        refine g_vi (y := nI (q + 2)) (nI_add q 2) ?_
        refine g_calli (pc' := 43) rfl rfl rfl rfl (Or.inr rfl) ?_
        refine c_nutAt hn h60 (by omega) (fun b hb eb => ?_) (fun zb => ?_)
        · refine g_iconst (pc' := 44) (v := -1) rfl rfl (by decide) ?_
          refine g_icmp_ne (pc' := 47) (t := 53) rfl rfl rfl (fun c_44 => ?_) (fun c_44 => absurd c_44 (nI_ne1 (by omega)))
          refine g_bipush (pc' := 55) (v := -6) rfl rfl (by decide) ?_
          exact g_ireturn rfl rfl (g_eq h (by unfold faultAt; rw [if_neg c_7, if_pos (by rw [ea]; exact isL_of ha), if_pos c_33, if_pos (by rw [eb]; exact isL_of hb)]) rfl)
        · refine g_iconst (pc' := 44) (v := -1) rfl rfl (by decide) ?_
          refine g_icmp_ne (pc' := 47) (t := 53) rfl rfl rfl (fun c => absurd c (by decide)) (fun _ => ?_)
          refine g_iload_n (pc' := 48) rfl rfl rfl ?_
          refine g_iconst (pc' := 49) (v := 2) rfl rfl (by decide) ?_
          refine g_iadd (pc' := 50) rfl rfl ?_
          refine g_vi (y := nI (q + 2)) (nI_add q 2) ?_
          refine g_goto (pc' := 55) rfl rfl ?_
          exact g_ireturn rfl rfl (g_eq h (by unfold faultAt; rw [if_neg c_7, if_pos (by rw [ea]; exact isL_of ha), if_pos c_33, if_neg (by rw [zb]; decide)]) rfl)
    · refine g_iconst (pc' := 19) (v := -1) rfl rfl (by decide) ?_
      refine g_icmp_ne (pc' := 22) (t := 24) rfl rfl rfl (fun c => absurd c (by decide)) (fun _ => ?_)
      refine g_iload_n (pc' := 23) rfl rfl rfl ?_
      exact g_ireturn rfl rfl (g_eq h (by unfold faultAt; rw [if_neg c_7, if_neg (by rw [za]; decide)]) rfl)
  · refine g_bipush (pc' := 12) (v := -6) rfl rfl (by decide) ?_
    exact g_ireturn rfl rfl (g_eq h (by unfold faultAt; rw [if_pos c_7]) rfl)
theorem c_kindOfActAt (hn : m.1 8 1 = nI n) (h60 : n ≤ 60) (hq : q < 100) (h : K (nI (kindAt (sg n (m.1 9)) q)) m) : gCi X 32 [.ref 8, .int (nI q)] m K := by
  refine g_inI rfl ?_
  refine g_aload_n (pc' := 1) rfl rfl rfl ?_
  refine g_iload_n (pc' := 2) rfl rfl rfl ?_
  refine g_calli (pc' := 5) rfl rfl rfl rfl (Or.inr rfl) ?_
  refine c_signAt hn h60 (by omega) ?_
  refine g_bipush (pc' := 7) (v := 46) rfl rfl (by decide) ?_
  refine g_icmp_ne (pc' := 10) (t := 12) rfl rfl rfl (fun c_7 => ?_) (fun c_7 => ?_)
  · refine g_aload_n (pc' := 13) rfl rfl rfl ?_
    refine g_iload_n (pc' := 14) rfl rfl rfl ?_
    refine g_iconst (pc' := 15) (v := 1) rfl rfl (by decide) ?_
    refine g_iadd (pc' := 16) rfl rfl ?_
    refine g_vi (y := nI (q + 1)) (nI_1 q) ?_
    refine g_calli (pc' := 19) rfl rfl rfl rfl (Or.inr rfl) ?_
    refine c_signAt hn h60 (by omega) ?_
    refine g_bipush (pc' := 21) (v := 62) rfl rfl (by decide) ?_
    refine g_icmp_ne (pc' := 24) (t := 26) rfl rfl rfl (fun c_21 => ?_) (fun c_21 => ?_)
    · refine g_aload_n (pc' := 27) rfl rfl rfl ?_
      refine g_iload_n (pc' := 28) rfl rfl rfl ?_
      refine g_iconst (pc' := 29) (v := 1) rfl rfl (by decide) ?_
      refine g_iadd (pc' := 30) rfl rfl ?_
      refine g_vi (y := nI (q + 1)) (nI_1 q) ?_
      refine g_calli (pc' := 33) rfl rfl rfl rfl (Or.inr rfl) ?_
      refine c_signAt hn h60 (by omega) ?_
      refine g_bipush (pc' := 35) (v := 42) rfl rfl (by decide) ?_
      refine g_icmp_ne (pc' := 38) (t := 42) rfl rfl rfl (fun c_35 => ?_) (fun c_35 => ?_)
      · refine g_iconst (pc' := 43) (v := 2) rfl rfl (by decide) ?_
        exact g_ireturn rfl rfl (g_eq h (by unfold kindAt; rw [if_neg c_7, if_neg c_21, if_neg c_35]; rfl) rfl)
      · refine g_iconst (pc' := 39) (v := 1) rfl rfl (by decide) ?_
        refine g_goto (pc' := 43) rfl rfl ?_
        exact g_ireturn rfl rfl (g_eq h (by unfold kindAt; rw [if_neg c_7, if_neg c_21, if_pos c_35]; rfl) rfl)
    · refine g_iconst (pc' := 25) (v := 0) rfl rfl (by decide) ?_
      exact g_ireturn rfl rfl (g_eq h (by unfold kindAt; rw [if_neg c_7, if_pos c_21]; rfl) rfl)
  · refine g_iconst (pc' := 11) (v := 3) rfl rfl (by decide) ?_
    exact g_ireturn rfl rfl (g_eq h (by unfold kindAt; rw [if_pos c_7]; rfl) rfl)
theorem nIk3 {k : Nat} (h : k < 1000) : nI k = 3 ↔ k = 3 := nI_eq (b := 3) (by omega) (by decide)
theorem nIk0 {k : Nat} (h : k < 1000) : nI k = 0 ↔ k = 0 := nI_eq (b := 0) (by omega) (by decide)
theorem c_lengthOfActAt (hn : m.1 8 1 = nI n) (h60 : n ≤ 60) (hq : q < 100) (h : K (nI (lenAt (sg n (m.1 9)) q)) m) : gCi X 33 [.ref 8, .int (nI q)] m K := by
  refine g_inI rfl ?_
  refine g_aload_n (pc' := 1) rfl rfl rfl ?_
  refine g_iload_n (pc' := 2) rfl rfl rfl ?_
  refine g_calli (pc' := 5) rfl rfl rfl rfl (Or.inr rfl) ?_
  refine c_kindOfActAt hn h60 hq ?_
  refine g_istore_n (pc' := 6) rfl rfl rfl ?_
  refine g_iload_n (pc' := 7) rfl rfl rfl ?_
  refine g_iconst (pc' := 8) (v := 3) rfl rfl (by decide) ?_
  refine g_icmp_ne (pc' := 11) (t := 15) rfl rfl rfl (fun c_8 => ?_) (fun c_8 => ?_)
  · refine g_iload_n (pc' := 16) rfl rfl rfl ?_
    refine g_if_ne (pc' := 19) (t := 23) rfl rfl rfl (fun c_16 => ?_) (fun c_16 => ?_)
    · refine g_iconst (pc' := 24) (v := 2) rfl rfl (by decide) ?_
      exact g_ireturn rfl rfl (g_eq h (by unfold lenAt; rw [if_neg (fun z => c_8 ((nIk3 (by have := kindAt_lt (sg n (m.1 9)) q; omega)).mpr z)), if_neg (fun z => c_16 ((nIk0 (by have := kindAt_lt (sg n (m.1 9)) q; omega)).mpr z))]; rfl) rfl)
    · refine g_iconst (pc' := 20) (v := 3) rfl rfl (by decide) ?_
      refine g_goto (pc' := 24) rfl rfl ?_
      exact g_ireturn rfl rfl (g_eq h (by unfold lenAt; rw [if_neg (fun z => c_8 ((nIk3 (by have := kindAt_lt (sg n (m.1 9)) q; omega)).mpr z)), if_pos ((nIk0 (by have := kindAt_lt (sg n (m.1 9)) q; omega)).mp c_16)]; rfl) rfl)
  · refine g_iconst (pc' := 12) (v := 1) rfl rfl (by decide) ?_
    refine g_goto (pc' := 24) rfl rfl ?_
    exact g_ireturn rfl rfl (g_eq h (by unfold lenAt; rw [if_pos ((nIk3 (by have := kindAt_lt (sg n (m.1 9)) q; omega)).mp c_8)]; rfl) rfl)
theorem c_findFault (hn : m.1 8 1 = nI n) (h60 : n ≤ 60) (h : K (findF (sg n (m.1 9)) n 60 0) m) : gCi X 30 [.ref 8] m K := by
  refine g_inI rfl ?_
  generalize hR : findF (sg n (m.1 9)) n 60 0 = R at h
  have loop : ∀ (d i : Nat) (q : Nat) (v3 : Value), i + d = 60 → q < 64 → findF (sg n (m.1 9)) n d q = R → gG X 30 4 [.ref 8, .int (nI q), .int (nI i), v3] [] m (fun r m' => ∃ v, r = some (.int v) ∧ K v m') := by
    intro d
    induction d with
    | zero =>
      intro i q v3 hd hq hr
      have hi : i = 60 := by omega
      subst hi
      refine g_iload_n (pc' := 5) rfl rfl rfl ?_
      refine g_bipush (pc' := 7) (v := 60) rfl rfl (by decide) ?_
      refine g_icmp_ge (pc' := 10) (t := 46) rfl rfl rfl (fun c_7 => ?_) (fun c_7 => absurd (by decide) c_7)
      refine g_bipush (pc' := 48) (v := -6) rfl rfl (by decide) ?_
      exact g_ireturn rfl rfl (g_eq h (by rw [← hr]; rfl) rfl)
    | succ d ih =>
      intro i q v3 hd hq hr
      have hlt : i < 60 := by omega
      refine g_iload_n (pc' := 5) rfl rfl rfl ?_
      refine g_bipush (pc' := 7) (v := 60) rfl rfl (by decide) ?_
      refine g_icmp_ge (pc' := 10) (t := 46) rfl rfl rfl (fun c_7 => absurd c_7 (nI_ge (b := 60) hlt (by decide))) (fun c_7 => ?_)
      refine g_iload_n (pc' := 11) rfl rfl rfl ?_
      refine g_aload_n (pc' := 12) rfl rfl rfl ?_
      refine g_geti (pc' := 15) rfl rfl (i_4_1) ?_
      refine g_vi (y := nI n) (hn) ?_
      refine g_icmp_ge (pc' := 18) (t := 46) rfl rfl rfl (fun c_15 => ?_) (fun c_15 => ?_)
      · refine g_bipush (pc' := 48) (v := -6) rfl rfl (by decide) ?_
        exact g_ireturn rfl rfl (g_eq h (by rw [← hr, findF, if_neg (fun z => nI_ge z (by omega) c_15)]) rfl)
      · have hqn : q < n := Nat.not_le.mp (fun z => c_15 (nI_le z (by omega)))
        refine g_aload_n (pc' := 19) rfl rfl rfl ?_
        refine g_iload_n (pc' := 20) rfl rfl rfl ?_
        refine g_calli (pc' := 23) rfl rfl rfl rfl (Or.inr rfl) ?_
        refine c_faultOfActAt hn h60 (by omega) ?_
        refine g_istore_n (pc' := 24) rfl rfl rfl ?_
        refine g_iload_n (pc' := 25) rfl rfl rfl ?_
        refine g_bipush (pc' := 27) (v := -6) rfl rfl (by decide) ?_
        refine g_icmp_eq (pc' := 30) (t := 32) rfl rfl rfl (fun c_27 => ?_) (fun c_27 => ?_)
        · refine g_iload_n (pc' := 33) rfl rfl rfl ?_
          refine g_aload_n (pc' := 34) rfl rfl rfl ?_
          refine g_iload_n (pc' := 35) rfl rfl rfl ?_
          refine g_calli (pc' := 38) rfl rfl rfl rfl (Or.inr rfl) ?_
          refine c_lengthOfActAt hn h60 (by omega) ?_
          refine g_iadd (pc' := 39) rfl rfl ?_
          refine g_vi (y := nI (q + lenAt (sg n (m.1 9)) q)) (nI_add _ _) ?_
          refine g_istore_n (pc' := 40) rfl rfl rfl ?_
          refine g_iinc (pc' := 43) (v := nI (i + 1)) rfl rfl rfl (nI_1 i) rfl ?_
          refine g_goto (pc' := 4) rfl rfl ?_
          exact ih (i + 1) _ _ (by omega) (by have := lenAt_le (sg n (m.1 9)) q; omega) (by rw [← hr, findF, if_pos hqn, if_pos c_27])
        · refine g_iload_n (pc' := 31) rfl rfl rfl ?_
          exact g_ireturn rfl rfl (g_eq h (by rw [← hr, findF, if_pos hqn, if_neg c_27]) rfl)
  refine g_iconst (pc' := 1) (v := 0) rfl rfl (by decide) ?_
  refine g_istore_n (pc' := 2) rfl rfl rfl ?_
  refine g_iconst (pc' := 3) (v := 0) rfl rfl (by decide) ?_
  refine g_istore_n (pc' := 4) rfl rfl rfl ?_
  exact loop 60 0 0 _ rfl (by decide) hR
end C5
