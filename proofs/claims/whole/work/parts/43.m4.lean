/-! THE MODEL: the pad, read sign by sign -/
section M4
variable {X : aX} {m : aMem} {K : Int32 → aMem → Prop} {l : List aAct}
theorem isLy {x : Int32} (h1 : 65 ≤ x) (h2 : x ≤ 74) : isL x = true := by unfold isL; rw [Bool.and_eq_true, decide_eq_true_eq, decide_eq_true_eq]; exact ⟨h1, h2⟩
theorem isLn {x : Int32} (h : ¬ (65 ≤ x ∧ x ≤ 74)) : isL x = false := Bool.eq_false_iff.mpr (fun z => h (by unfold isL at z; rw [Bool.and_eq_true, decide_eq_true_eq, decide_eq_true_eq] at z; exact z))
theorem isDy {x : Int32} (h1 : 48 ≤ x) (h2 : x ≤ 51) : isDg x = true := by unfold isDg; rw [Bool.and_eq_true, decide_eq_true_eq, decide_eq_true_eq]; exact ⟨h1, h2⟩
theorem isDn {x : Int32} (h : ¬ (48 ≤ x ∧ x ≤ 51)) : isDg x = false := Bool.eq_false_iff.mpr (fun z => h (by unfold isDg at z; rw [Bool.and_eq_true, decide_eq_true_eq, decide_eq_true_eq] at z; exact z))
abbrev aRd : Type := Nat × Nat × List aAct
def rdS (r : aRd) (x : Int32) : Option aRd := if r.1 = 0 then (if isL x = true then some (1, letN x, r.2.2) else if x = 46 then some (0, 0, r.2.2 ++ [(3, 0, 0)]) else none) else if r.1 = 1 then (if isDg x = true then some (0, r.2.1, r.2.2 ++ [(2, r.2.1, dgN x)]) else if x = 62 then some (2, r.2.1, r.2.2) else if x = 42 then some (0, r.2.1, r.2.2 ++ [(1, r.2.1, 0)]) else none) else (if isL x = true then some (0, r.2.1, r.2.2 ++ [(0, r.2.1, letN x)]) else none)
def RD (m : aMem) (r : aRd) : Prop := AL m r.2.2 ∧ (r.1 ≠ 0 → m.1 63 r.2.2.length = nI r.2.1)
theorem l_sub {x : Int32} {k : Nat} (hk : x = nI (65 + k)) : x - 65 = nI k := by rw [hk]; exact i_sub (a := 65)
theorem g_sub {x : Int32} {k : Nat} (hk : x = nI (48 + k)) : x - 48 = nI k := by rw [hk]; exact i_sub (a := 48)
theorem d_begin {x : Int32} (hA : AL m l) (hl : l.length < 60) (h1 : ∀ r' m', rdS (0, 0, l) x = some r' → FF m m' → RD m' r' → K (nI r'.1) m') (h0 : ∀ m', rdS (0, 0, l) x = none → FF m m' → K (-6) m') : gCi X 117 [.ref 53, .int x] m K := by
  refine g_inI rfl ?_
  refine g_iload_n (pc' := 1) rfl rfl rfl ?_
  refine g_i2l (pc' := 2) rfl rfl ?_
  refine g_ldc2_w (pc' := 5) (v := 65) rfl rfl (by decide) ?_
  refine g_ldc2_w (pc' := 8) (v := 74) rfl rfl (by decide) ?_
  refine g_calli (pc' := 11) rfl rfl rfl rfl (Or.inl rfl) ?_
  refine d_in (lo := 65) (hi := 74) (by decide) (by decide) (fun u1 u2 => ?_) (fun u0 => ?_)
  · have uL := isLy u1 u2
    obtain ⟨k, hk, ex⟩ := isL_k uL
    have el : letN x = k := by rw [ex]; exact letN_k hk
    refine g_istore_n (pc' := 12) rfl rfl rfl ?_
    refine g_aload_n (pc' := 13) rfl rfl rfl ?_
    refine g_getr (pc' := 16) rfl rfl (f_11_12) ?_
    refine g_aload_n (pc' := 17) rfl rfl rfl ?_
    refine g_geti (pc' := 20) rfl rfl (i_11_14) ?_
    refine g_vi (y := nI l.length) (hA.1) ?_
    refine g_iload_n (pc' := 21) rfl rfl rfl ?_
    refine g_if_eq (pc' := 24) (t := 31) rfl rfl rfl (fun c => absurd c (by decide)) (fun _ => ?_)
    refine g_iload_n (pc' := 25) rfl rfl rfl ?_
    refine g_bipush (pc' := 27) (v := 65) rfl rfl (by decide) ?_
    refine g_isub (pc' := 28) rfl rfl ?_
    refine g_vi (y := nI k) (l_sub ex) ?_
    refine g_goto (pc' := 32) rfl rfl ?_
    refine g_iast (pc' := 33) rfl rfl (a_63) hl rfl ?_
    refine g_iload_n (pc' := 34) rfl rfl rfl ?_
    refine g_if_eq (pc' := 37) (t := 41) rfl rfl rfl (fun c => absurd c (by decide)) (fun _ => ?_)
    refine g_iconst (pc' := 38) (v := 1) rfl rfl (by decide) ?_
    refine g_goto (pc' := 58) rfl rfl ?_
    exact g_ireturn rfl rfl (h1 (1, k, l) _ (by rw [rdS, if_pos rfl, if_pos uL, el]) (FF.rf.a (Or.inr (Or.inl rfl))) ⟨hA.w63, fun _ => by show am_wi m.1 63 l.length (nI k) 63 l.length = nI k; rw [am_wi_s, upd_at]⟩)
  · have uL := isLn u0
    refine g_istore_n (pc' := 12) rfl rfl rfl ?_
    refine g_aload_n (pc' := 13) rfl rfl rfl ?_
    refine g_getr (pc' := 16) rfl rfl (f_11_12) ?_
    refine g_aload_n (pc' := 17) rfl rfl rfl ?_
    refine g_geti (pc' := 20) rfl rfl (i_11_14) ?_
    refine g_vi (y := nI l.length) (hA.1) ?_
    refine g_iload_n (pc' := 21) rfl rfl rfl ?_
    refine g_if_eq (pc' := 24) (t := 31) rfl rfl rfl (fun _ => ?_) (fun c => absurd c (by decide))
    refine g_iconst (pc' := 32) (v := 0) rfl rfl (by decide) ?_
    refine g_iast (pc' := 33) rfl rfl (a_63) hl rfl ?_
    refine g_iload_n (pc' := 34) rfl rfl rfl ?_
    refine g_if_eq (pc' := 37) (t := 41) rfl rfl rfl (fun _ => ?_) (fun c => absurd c (by decide))
    refine g_iload_n (pc' := 42) rfl rfl rfl ?_
    refine g_bipush (pc' := 44) (v := 46) rfl rfl (by decide) ?_
    refine g_icmp_ne (pc' := 47) (t := 56) rfl rfl rfl (fun c_44 => ?_) (fun c_44 => ?_)
    · refine g_bipush (pc' := 58) (v := -6) rfl rfl (by decide) ?_
      exact g_ireturn rfl rfl (h0 _ (by rw [rdS, if_pos rfl, if_neg (by rw [uL]; decide), if_neg c_44]) (FF.rf.a (Or.inr (Or.inl rfl))))
    · refine g_aload_n (pc' := 48) rfl rfl rfl ?_
      refine g_iconst (pc' := 49) (v := 3) rfl rfl (by decide) ?_
      refine g_iconst (pc' := 50) (v := 0) rfl rfl (by decide) ?_
      refine g_calli (pc' := 53) rfl rfl rfl rfl (Or.inr rfl) ?_
      refine d_close (kd := 3) (b := 0) (w := 0) hA.w63 hl (by show am_wi m.1 63 l.length 0 63 l.length = nI 0; rw [am_wi_s, upd_at]; rfl) (fun m2 f2 a2 => ?_)
      refine g_goto (pc' := 58) rfl rfl ?_
      exact g_ireturn rfl rfl (h1 (0, 0, l ++ [(3, 0, 0)]) _ (by rw [rdS, if_pos rfl, if_neg (by rw [uL]; decide), if_pos c_44]) ((FF.rf.a (Or.inr (Or.inl rfl))).tr f2) ⟨a2, fun z => absurd rfl z⟩)
theorem d_deed {x : Int32} {w : Nat} (hA : AL m l) (hl : l.length < 60) (hw : m.1 63 l.length = nI w) (h1 : ∀ r' m', rdS (1, w, l) x = some r' → FF m m' → RD m' r' → K (nI r'.1) m') (h0 : ∀ m', rdS (1, w, l) x = none → FF m m' → K (-6) m') : gCi X 118 [.ref 53, .int x] m K := by
  refine g_inI rfl ?_
  refine g_iload_n (pc' := 1) rfl rfl rfl ?_
  refine g_i2l (pc' := 2) rfl rfl ?_
  refine g_ldc2_w (pc' := 5) (v := 48) rfl rfl (by decide) ?_
  refine g_ldc2_w (pc' := 8) (v := 51) rfl rfl (by decide) ?_
  refine g_calli (pc' := 11) rfl rfl rfl rfl (Or.inl rfl) ?_
  refine d_in (lo := 48) (hi := 51) (by decide) (by decide) (fun u1 u2 => ?_) (fun u0 => ?_)
  · have uL := isDy u1 u2
    obtain ⟨k, hk, ex⟩ := isDg_k uL
    have el : dgN x = k := by rw [ex]; exact dgN_k hk
    refine g_if_eq (pc' := 14) (t := 24) rfl rfl rfl (fun c => absurd c (by decide)) (fun _ => ?_)
    refine g_aload_n (pc' := 15) rfl rfl rfl ?_
    refine g_iconst (pc' := 16) (v := 2) rfl rfl (by decide) ?_
    refine g_iload_n (pc' := 17) rfl rfl rfl ?_
    refine g_bipush (pc' := 19) (v := 48) rfl rfl (by decide) ?_
    refine g_isub (pc' := 20) rfl rfl ?_
    refine g_vi (y := nI k) (g_sub ex) ?_
    refine g_calli (pc' := 23) rfl rfl rfl rfl (Or.inr rfl) ?_
    refine d_close (kd := 2) (b := k) (w := w) hA hl hw (fun m2 f2 a2 => ?_)
    exact g_ireturn rfl rfl (h1 (0, w, l ++ [(2, w, k)]) _ (by rw [rdS, if_neg (show ¬ (1 : Nat) = 0 by decide), if_pos rfl, if_pos uL, el]) f2 ⟨a2, fun z => absurd rfl z⟩)
  · have uL := isDn u0
    refine g_if_eq (pc' := 14) (t := 24) rfl rfl rfl (fun _ => ?_) (fun c => absurd c (by decide))
    refine g_iload_n (pc' := 25) rfl rfl rfl ?_
    refine g_bipush (pc' := 27) (v := 62) rfl rfl (by decide) ?_
    refine g_icmp_ne (pc' := 30) (t := 34) rfl rfl rfl (fun c_27 => ?_) (fun c_27 => ?_)
    · refine g_iload_n (pc' := 35) rfl rfl rfl ?_
      refine g_bipush (pc' := 37) (v := 42) rfl rfl (by decide) ?_
      refine g_icmp_ne (pc' := 40) (t := 49) rfl rfl rfl (fun c_37 => ?_) (fun c_37 => ?_)
      · refine g_bipush (pc' := 51) (v := -6) rfl rfl (by decide) ?_
        exact g_ireturn rfl rfl (h0 _ (by rw [rdS, if_neg (show ¬ (1 : Nat) = 0 by decide), if_pos rfl, if_neg (by rw [uL]; decide), if_neg c_27, if_neg c_37]) FF.rf)
      · refine g_aload_n (pc' := 41) rfl rfl rfl ?_
        refine g_iconst (pc' := 42) (v := 1) rfl rfl (by decide) ?_
        refine g_iconst (pc' := 43) (v := 0) rfl rfl (by decide) ?_
        refine g_calli (pc' := 46) rfl rfl rfl rfl (Or.inr rfl) ?_
        refine d_close (kd := 1) (b := 0) (w := w) hA hl hw (fun m2 f2 a2 => ?_)
        refine g_goto (pc' := 51) rfl rfl ?_
        exact g_ireturn rfl rfl (h1 (0, w, l ++ [(1, w, 0)]) _ (by rw [rdS, if_neg (show ¬ (1 : Nat) = 0 by decide), if_pos rfl, if_neg (by rw [uL]; decide), if_neg c_27, if_pos c_37]) f2 ⟨a2, fun z => absurd rfl z⟩)
    · refine g_iconst (pc' := 31) (v := 2) rfl rfl (by decide) ?_
      refine g_goto (pc' := 51) rfl rfl ?_
      exact g_ireturn rfl rfl (h1 (2, w, l) _ (by rw [rdS, if_neg (show ¬ (1 : Nat) = 0 by decide), if_pos rfl, if_neg (by rw [uL]; decide), if_pos c_27]) FF.rf ⟨hA, fun _ => hw⟩)
theorem d_readOn {x : Int32} {r : aRd} (hr : r.1 < 3) (hR : RD m r) (hl : r.2.2.length < 60) (h1 : ∀ r' m', rdS r x = some r' → FF m m' → RD m' r' → K (nI r'.1) m') (h0 : ∀ m', rdS r x = none → FF m m' → K (-6) m') : gCi X 119 [.ref 53, .int (nI r.1), .int x] m K := by
  obtain ⟨d, w, l⟩ := r
  have hd : d = 0 ∨ d = 1 ∨ d = 2 := by have : d < 3 := hr; omega
  obtain ⟨hA, hw⟩ := hR
  rcases hd with e | e | e
  · subst e
    refine g_inI rfl ?_
    refine g_iload_n (pc' := 1) rfl rfl rfl ?_
    skip
    refine g_look rfl (by decide) (show _ = some 28 from rfl) ?_
    refine g_aload_n (pc' := 29) rfl rfl rfl ?_
    refine g_iload_n (pc' := 30) rfl rfl rfl ?_
    refine g_calli (pc' := 33) rfl rfl rfl rfl (Or.inr rfl) ?_
    refine d_begin hA hl (fun r2 m2 e2 f2 a2 => ?_) (fun m2 e2 f2 => ?_)
    · exact g_ireturn rfl rfl (h1 r2 m2 e2 f2 a2)
    · exact g_ireturn rfl rfl (h0 m2 e2 f2)
  · subst e
    refine g_inI rfl ?_
    refine g_iload_n (pc' := 1) rfl rfl rfl ?_
    skip
    refine g_look rfl (by decide) (show _ = some 34 from rfl) ?_
    refine g_aload_n (pc' := 35) rfl rfl rfl ?_
    refine g_iload_n (pc' := 36) rfl rfl rfl ?_
    refine g_calli (pc' := 39) rfl rfl rfl rfl (Or.inr rfl) ?_
    refine d_deed hA hl (hw (show ¬ (1 : Nat) = 0 by decide)) (fun r2 m2 e2 f2 a2 => ?_) (fun m2 e2 f2 => ?_)
    · exact g_ireturn rfl rfl (h1 r2 m2 e2 f2 a2)
    · exact g_ireturn rfl rfl (h0 m2 e2 f2)
  · subst e
    refine g_inI rfl ?_
    refine g_iload_n (pc' := 1) rfl rfl rfl ?_
    skip
    refine g_look rfl (by decide) (show _ = some 40 from rfl) ?_
    refine g_iload_n (pc' := 41) rfl rfl rfl ?_
    refine g_i2l (pc' := 42) rfl rfl ?_
    refine g_ldc2_w (pc' := 45) (v := 65) rfl rfl (by decide) ?_
    refine g_ldc2_w (pc' := 48) (v := 74) rfl rfl (by decide) ?_
    refine g_calli (pc' := 51) rfl rfl rfl rfl (Or.inl rfl) ?_
    refine d_in (lo := 65) (hi := 74) (by decide) (by decide) (fun u1 u2 => ?_) (fun u0 => ?_)
    · have uL := isLy u1 u2
      obtain ⟨k, hk, ex⟩ := isL_k uL
      have el : letN x = k := by rw [ex]; exact letN_k hk
      refine g_if_eq (pc' := 54) (t := 66) rfl rfl rfl (fun c => absurd c (by decide)) (fun _ => ?_)
      refine g_aload_n (pc' := 55) rfl rfl rfl ?_
      refine g_iconst (pc' := 56) (v := 0) rfl rfl (by decide) ?_
      refine g_iload_n (pc' := 57) rfl rfl rfl ?_
      refine g_bipush (pc' := 59) (v := 65) rfl rfl (by decide) ?_
      refine g_isub (pc' := 60) rfl rfl ?_
      refine g_vi (y := nI k) (l_sub ex) ?_
      refine g_calli (pc' := 63) rfl rfl rfl rfl (Or.inr rfl) ?_
      refine d_close (kd := 0) (b := k) (w := w) hA hl (hw (show ¬ (2 : Nat) = 0 by decide)) (fun m2 f2 a2 => ?_)
      refine g_goto (pc' := 68) rfl rfl ?_
      exact g_ireturn rfl rfl (h1 (0, w, l ++ [(0, w, k)]) _ (by rw [rdS, if_neg (show ¬ (2 : Nat) = 0 by decide), if_neg (show ¬ (2 : Nat) = 1 by decide), if_pos uL, el]) f2 ⟨a2, fun z => absurd rfl z⟩)
    · have uL := isLn u0
      refine g_if_eq (pc' := 54) (t := 66) rfl rfl rfl (fun _ => ?_) (fun c => absurd c (by decide))
      refine g_bipush (pc' := 68) (v := -6) rfl rfl (by decide) ?_
      exact g_ireturn rfl rfl (h0 _ (by rw [rdS, if_neg (show ¬ (2 : Nat) = 0 by decide), if_neg (show ¬ (2 : Nat) = 1 by decide), if_neg (by rw [uL]; decide)]) FF.rf)
def scanP (g : Nat → Int32) (n : Nat) : Nat → Nat → aRd → Int32 × List aAct
  | 0, _, r => (if r.1 = 0 then -6 else nI n, r.2.2)
  | k + 1, i, r => match rdS r (g i) with
    | none => (nI i, r.2.2)
    | some r' => scanP g n k (i + 1) r'
theorem rd_lt {r r' : aRd} {x : Int32} (h : rdS r x = some r') : r'.1 < 3 ∧ r'.2.2.length ≤ r.2.2.length + 1 := by
  unfold rdS at h
  repeat' split at h
  all_goals first | (cases h; exact ⟨by simp, by simp⟩) | cases h
theorem FF.x {m m' : aMem} (h : FF m m') {i : Nat} (hi : i ≠ 14) : m'.1 53 i = m.1 53 i := h.2.2 i hi
theorem d_fault {n : Nat} (hn : m.1 53 10 = nI n) (h60 : n ≤ 60) (h : ∀ m', FF m m' → ((scanP (m.1 61) n n 0 (0, 0, [])).1 = -6 → AL m' (scanP (m.1 61) n n 0 (0, 0, [])).2) → K (scanP (m.1 61) n n 0 (0, 0, [])).1 m') : gCi X 120 [.ref 53] m K := by
  refine g_inI rfl ?_
  have loop : ∀ (d i : Nat) (m1 : aMem) (r : aRd), i + d = n → FF m m1 → RD m1 r → r.1 < 3 → r.2.2.length ≤ i → scanP (m.1 61) n d i r = scanP (m.1 61) n n 0 (0, 0, []) → gG X 120 9 [.ref 53, .int (nI r.1), .int (nI i)] [] m1 (fun r m' => ∃ v, r = some (.int v) ∧ K v m') := by
    intro d
    induction d with
    | zero =>
      intro i m1 r hd hF hR h3 hl hs
      have hi : i = n := by omega
      subst hi
      have e61 : m1.1 61 = m.1 61 := hF.1 61 (by decide) (by decide) (by decide) (by decide)
      have e10 := (hF.x (i := 10) (by decide)).trans hn
      refine g_iload_n (pc' := 10) rfl rfl rfl ?_
      refine g_aload_n (pc' := 11) rfl rfl rfl ?_
      refine g_geti (pc' := 14) rfl rfl (i_11_10) ?_
      refine g_vi (y := _) (e10) ?_
      refine g_icmp_ge (pc' := 17) (t := 41) rfl rfl rfl (fun c_14 => ?_) (fun c_14 => absurd (nI_le (Nat.le_refl i) (by omega)) c_14)
      refine g_iload_n (pc' := 42) rfl rfl rfl ?_
      refine g_if_ne (pc' := 45) (t := 50) rfl rfl rfl (fun c_42 => ?_) (fun c_42 => ?_)
      · refine g_aload_n (pc' := 51) rfl rfl rfl ?_
        refine g_geti (pc' := 54) rfl rfl (i_11_10) ?_
        refine g_vi (y := _) (e10) ?_
        exact g_ireturn rfl rfl (g_eq (h m1 hF (fun z => by rw [← hs]; exact hR.1)) (by rw [← hs, scanP, if_neg (fun z => c_42 ((nIk0 (by omega)).mpr z))]) rfl)
      · refine g_bipush (pc' := 47) (v := -6) rfl rfl (by decide) ?_
        refine g_goto (pc' := 54) rfl rfl ?_
        exact g_ireturn rfl rfl (g_eq (h m1 hF (fun _ => by rw [← hs]; exact hR.1)) (by rw [← hs, scanP, if_pos ((nIk0 (by omega)).mp c_42)]) rfl)
    | succ d ih =>
      intro i m1 r hd hF hR h3 hl hs
      have hlt : i < n := by omega
      have e61 : m1.1 61 = m.1 61 := hF.1 61 (by decide) (by decide) (by decide) (by decide)
      have e10 := (hF.x (i := 10) (by decide)).trans hn
      refine g_iload_n (pc' := 10) rfl rfl rfl ?_
      refine g_aload_n (pc' := 11) rfl rfl rfl ?_
      refine g_geti (pc' := 14) rfl rfl (i_11_10) ?_
      refine g_vi (y := nI n) (e10) ?_
      refine g_icmp_ge (pc' := 17) (t := 41) rfl rfl rfl (fun c_14 => absurd c_14 (nI_ge (b := n) hlt (by omega))) (fun c_14 => ?_)
      refine g_aload_n (pc' := 18) rfl rfl rfl ?_
      refine g_iload_n (pc' := 19) rfl rfl rfl ?_
      refine g_aload_n (pc' := 20) rfl rfl rfl ?_
      refine g_getr (pc' := 23) rfl rfl (f_11_9) ?_
      refine g_iload_n (pc' := 24) rfl rfl rfl ?_
      refine g_iald (pc' := 25) rfl rfl (a_61) (k := i) (by omega) rfl ?_
      refine g_vi (y := m.1 61 i) (by rw [e61]) ?_
      refine g_calli (pc' := 28) rfl rfl rfl rfl (Or.inr rfl) ?_
      refine d_readOn h3 hR (by omega) (fun r2 m2 e2 f2 a2 => ?_) (fun m2 e2 f2 => ?_)
      · refine g_istore_n (pc' := 29) rfl rfl rfl ?_
        refine g_iload_n (pc' := 30) rfl rfl rfl ?_
        refine g_if_ge (pc' := 33) (t := 35) rfl rfl rfl (fun c_30 => ?_) (fun c_30 => absurd (nI_pos' (by have := (rd_lt e2).1; omega)) c_30)
        refine g_iinc (pc' := 38) (v := nI (i + 1)) rfl rfl rfl (nI_1 i) rfl ?_
        refine g_goto (pc' := 9) rfl rfl ?_
        exact ih (i + 1) m2 r2 (by omega) (hF.tr f2) a2 (rd_lt e2).1 (by have := (rd_lt e2).2; omega) (by rw [← hs, scanP, e2])
      · refine g_istore_n (pc' := 29) rfl rfl rfl ?_
        refine g_iload_n (pc' := 30) rfl rfl rfl ?_
        refine g_if_ge (pc' := 33) (t := 35) rfl rfl rfl (fun c => absurd c (by decide)) (fun _ => ?_)
        refine g_iload_n (pc' := 34) rfl rfl rfl ?_
        exact g_ireturn rfl rfl (g_eq (h m2 (hF.tr f2) (fun z => by rw [← hs, scanP, e2] at z; exact absurd z (nI_ne6 (by omega)))) (by rw [← hs, scanP, e2]) rfl)
  refine g_aload_n (pc' := 1) rfl rfl rfl ?_
  refine g_iconst (pc' := 2) (v := 0) rfl rfl (by decide) ?_
  refine g_puti (pc' := 5) rfl rfl (i_11_14) ?_
  refine g_iconst (pc' := 6) (v := 0) rfl rfl (by decide) ?_
  refine g_istore_n (pc' := 7) rfl rfl rfl ?_
  refine g_iconst (pc' := 8) (v := 0) rfl rfl (by decide) ?_
  refine g_istore_n (pc' := 9) rfl rfl rfl ?_
  exact loop n 0 _ (0, 0, []) (by omega) FF.rf.c ⟨⟨by simp only [am_wi_s]; exact upd_at, fun j x hj => by cases hj⟩, fun z => absurd rfl z⟩ (by decide) (Nat.zero_le _) rfl
end M4
