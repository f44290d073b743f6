/-! THE MODEL: what is kept and put back; the pad, read sign by sign -/
section M3
variable {X : aX} {m : aMem}
def hdAt (m : aMem) : aStr := (cut 10 (fun i => m.1 65 i), cut 10 (fun i => m.1 65 (10 + i)), cut 10 (fun i => m.1 65 (20 + i)), cut 10 (fun i => m.1 65 (30 + i)), cut 10 (fun i => m.1 65 (40 + i)), m.1 65 50)
theorem hdAt_eq {m' : aMem} {s : aStr} (h : ∀ j, j < 10 → m'.1 65 j = sH s j ∧ m'.1 65 (10 + j) = sC s j ∧ m'.1 65 (20 + j) = sS s j ∧ m'.1 65 (30 + j) = sO s j ∧ m'.1 65 (40 + j) = sI s j) (hd : m'.1 65 50 = sD s) (hs : ∃ mm p, s = stAt mm p) : hdAt m' = s := by
  obtain ⟨mm, p, rfl⟩ := hs
  unfold hdAt stAt
  have e : ∀ (f g : Nat → Int32), (∀ j, j < 10 → f j = cut 10 g j) → cut 10 f = cut 10 g := fun f g hh => cut_ext (fun k hk => (hh k hk).trans (cut_at hk))
  rw [e _ _ (fun j hj => (h j hj).1), e _ _ (fun j hj => (h j hj).2.1), e _ _ (fun j hj => (h j hj).2.2.1), e _ _ (fun j hj => (h j hj).2.2.2.1), e _ _ (fun j hj => (h j hj).2.2.2.2), hd]
  rfl
theorem hd_r {j : Nat} (h : j < 10) : m.1 65 j = sH (hdAt m) j ∧ m.1 65 (10 + j) = sC (hdAt m) j ∧ m.1 65 (20 + j) = sS (hdAt m) j ∧ m.1 65 (30 + j) = sO (hdAt m) j ∧ m.1 65 (40 + j) = sI (hdAt m) j :=
  ⟨(cut_at (f := fun i => m.1 65 i) h).symm, (cut_at (f := fun i => m.1 65 (10 + i)) h).symm, (cut_at (f := fun i => m.1 65 (20 + i)) h).symm, (cut_at (f := fun i => m.1 65 (30 + i)) h).symm, (cut_at (f := fun i => m.1 65 (40 + i)) h).symm⟩
theorem d_keepNow {K : aMem → Prop} (h : ∀ m', Fr 65 66 m m' → hdAt m' = stAt m 53 → K m') : gCv X 128 [.ref 53] m K := by
  refine g_inV rfl ?_
  have loop : ∀ (d i : Nat) (m1 : aMem), i + d = 10 → Fr 65 66 m m1 → (∀ j, j < i → m1.1 65 j = sH (stAt m 53) j ∧ m1.1 65 (10 + j) = sC (stAt m 53) j ∧ m1.1 65 (20 + j) = sS (stAt m 53) j ∧ m1.1 65 (30 + j) = sO (stAt m 53) j ∧ m1.1 65 (40 + j) = sI (stAt m 53) j) → gG X 128 2 [.ref 53, .int (nI i)] [] m1 (fun r m' => r = none ∧ K m') := by
    intro d
    induction d with
    | zero =>
      intro i m1 hd hF hI
      have hi : i = 10 := by omega
      subst hi
      refine g_iload_n (pc' := 3) rfl rfl rfl ?_
      refine g_bipush (pc' := 5) (v := 10) rfl rfl (by decide) ?_
      refine g_icmp_ge (pc' := 8) (t := 86) rfl rfl rfl (fun c_5 => ?_) (fun c_5 => absurd (by decide) c_5)
      refine g_aload_n (pc' := 87) rfl rfl rfl ?_
      refine g_getr (pc' := 90) rfl rfl (f_11_17) ?_
      refine g_bipush (pc' := 92) (v := 50) rfl rfl (by decide) ?_
      refine g_aload_n (pc' := 93) rfl rfl rfl ?_
      refine g_geti (pc' := 96) rfl rfl (i_11_5) ?_
      refine g_vi (y := sD (stAt m 53)) (congrFun (hF.i (q := 53) (by omega)) 5) ?_
      refine g_iast (pc' := 97) rfl rfl (a_65) (k := 50) (by decide) rfl ?_
      exact g_return rfl rfl (h _ (hF.s (by omega) (by omega)) (hdAt_eq (fun j hj => by
            simp only [am_wi_s]
            obtain ⟨a1, a2, a3, a4, a5⟩ := hI j hj
            refine ⟨?_, ?_, ?_, ?_, ?_⟩ <;> (rw [upd_ne (by omega)]; assumption)) (by simp only [am_wi_s]; exact upd_at) ⟨m, 53, rfl⟩))
    | succ d ih =>
      intro i m1 hd hF hI
      have hlt : i < 10 := by omega
      refine g_iload_n (pc' := 3) rfl rfl rfl ?_
      refine g_bipush (pc' := 5) (v := 10) rfl rfl (by decide) ?_
      refine g_icmp_ge (pc' := 8) (t := 86) rfl rfl rfl (fun c_5 => absurd c_5 (nI_ge (b := 10) hlt (by decide))) (fun c_5 => ?_)
      refine g_aload_n (pc' := 9) rfl rfl rfl ?_
      refine g_getr (pc' := 12) rfl rfl (f_11_17) ?_
      refine g_iload_n (pc' := 13) rfl rfl rfl ?_
      refine g_aload_n (pc' := 14) rfl rfl rfl ?_
      refine g_getr (pc' := 17) rfl rfl (f_11_0) ?_
      refine g_iload_n (pc' := 18) rfl rfl rfl ?_
      refine g_iald (pc' := 19) rfl rfl (a_54) hlt rfl ?_
      refine g_vi (y := sH (stAt m 53) i) (by rw [r_H hlt, hF.st (p := 53) (by omega)]) ?_
      refine g_iast (pc' := 20) rfl rfl (a_65) (k := i) (by omega) rfl ?_
      refine g_aload_n (pc' := 21) rfl rfl rfl ?_
      refine g_getr (pc' := 24) rfl rfl (f_11_17) ?_
      refine g_bipush (pc' := 26) (v := 10) rfl rfl (by decide) ?_
      refine g_iload_n (pc' := 27) rfl rfl rfl ?_
      refine g_iadd (pc' := 28) rfl rfl ?_
      refine g_vi (y := nI (10 + i)) (nI_add 10 i) ?_
      refine g_aload_n (pc' := 29) rfl rfl rfl ?_
      refine g_getr (pc' := 32) rfl rfl (f_11_1) ?_
      refine g_iload_n (pc' := 33) rfl rfl rfl ?_
      refine g_iald (pc' := 34) rfl rfl (a_55) hlt rfl ?_
      refine g_vi (y := sC (stAt m 53) i) (by rw [r_C hlt, (hF.s (by omega) (by omega)).st (p := 53) (by omega)]) ?_
      refine g_iast (pc' := 35) rfl rfl (a_65) (k := 10 + i) (by omega) rfl ?_
      refine g_aload_n (pc' := 36) rfl rfl rfl ?_
      refine g_getr (pc' := 39) rfl rfl (f_11_17) ?_
      refine g_bipush (pc' := 41) (v := 20) rfl rfl (by decide) ?_
      refine g_iload_n (pc' := 42) rfl rfl rfl ?_
      refine g_iadd (pc' := 43) rfl rfl ?_
      refine g_vi (y := nI (20 + i)) (nI_add 20 i) ?_
      refine g_aload_n (pc' := 44) rfl rfl rfl ?_
      refine g_getr (pc' := 47) rfl rfl (f_11_2) ?_
      refine g_iload_n (pc' := 48) rfl rfl rfl ?_
      refine g_iald (pc' := 49) rfl rfl (a_56) hlt rfl ?_
      refine g_vi (y := sS (stAt m 53) i) (by rw [r_S hlt, ((hF.s (by omega) (by omega)).s (by omega) (by omega)).st (p := 53) (by omega)]) ?_
      refine g_iast (pc' := 50) rfl rfl (a_65) (k := 20 + i) (by omega) rfl ?_
      refine g_aload_n (pc' := 51) rfl rfl rfl ?_
      refine g_getr (pc' := 54) rfl rfl (f_11_17) ?_
      refine g_bipush (pc' := 56) (v := 30) rfl rfl (by decide) ?_
      refine g_iload_n (pc' := 57) rfl rfl rfl ?_
      refine g_iadd (pc' := 58) rfl rfl ?_
      refine g_vi (y := nI (30 + i)) (nI_add 30 i) ?_
      refine g_aload_n (pc' := 59) rfl rfl rfl ?_
      refine g_getr (pc' := 62) rfl rfl (f_11_3) ?_
      refine g_iload_n (pc' := 63) rfl rfl rfl ?_
      refine g_iald (pc' := 64) rfl rfl (a_57) hlt rfl ?_
      refine g_vi (y := sO (stAt m 53) i) (by rw [r_O hlt, (((hF.s (by omega) (by omega)).s (by omega) (by omega)).s (by omega) (by omega)).st (p := 53) (by omega)]) ?_
      refine g_iast (pc' := 65) rfl rfl (a_65) (k := 30 + i) (by omega) rfl ?_
      refine g_aload_n (pc' := 66) rfl rfl rfl ?_
      refine g_getr (pc' := 69) rfl rfl (f_11_17) ?_
      refine g_bipush (pc' := 71) (v := 40) rfl rfl (by decide) ?_
      refine g_iload_n (pc' := 72) rfl rfl rfl ?_
      refine g_iadd (pc' := 73) rfl rfl ?_
      refine g_vi (y := nI (40 + i)) (nI_add 40 i) ?_
      refine g_aload_n (pc' := 74) rfl rfl rfl ?_
      refine g_getr (pc' := 77) rfl rfl (f_11_4) ?_
      refine g_iload_n (pc' := 78) rfl rfl rfl ?_
      refine g_iald (pc' := 79) rfl rfl (a_58) hlt rfl ?_
      refine g_vi (y := sI (stAt m 53) i) (by rw [r_I hlt, ((((hF.s (by omega) (by omega)).s (by omega) (by omega)).s (by omega) (by omega)).s (by omega) (by omega)).st (p := 53) (by omega)]) ?_
      refine g_iast (pc' := 80) rfl rfl (a_65) (k := 40 + i) (by omega) rfl ?_
      refine g_iinc (pc' := 83) (v := nI (i + 1)) rfl rfl rfl (nI_1 i) rfl ?_
      refine g_goto (pc' := 2) rfl rfl ?_
      refine ih (i + 1) _ (by omega) (((((hF.s (by omega) (by omega)).s (by omega) (by omega)).s (by omega) (by omega)).s (by omega) (by omega)).s (by omega) (by omega)) (fun j hj => ?_)
      simp only [am_wi_s]
      by_cases e : j = i
      · subst e
        refine ⟨?_, ?_, ?_, ?_, ?_⟩
        · rw [upd_ne (by omega), upd_ne (by omega), upd_ne (by omega), upd_ne (by omega), upd_at]
        · rw [upd_ne (by omega), upd_ne (by omega), upd_ne (by omega), upd_at]
        · rw [upd_ne (by omega), upd_ne (by omega), upd_at]
        · rw [upd_ne (by omega), upd_at]
        · rw [upd_at]
      · have hj2 : j < i := by omega
        obtain ⟨a1, a2, a3, a4, a5⟩ := hI j hj2
        refine ⟨?_, ?_, ?_, ?_, ?_⟩
        · rw [upd_ne (by omega), upd_ne (by omega), upd_ne (by omega), upd_ne (by omega), upd_ne (by omega)]; exact a1
        · rw [upd_ne (by omega), upd_ne (by omega), upd_ne (by omega), upd_ne (by omega), upd_ne (by omega)]; exact a2
        · rw [upd_ne (by omega), upd_ne (by omega), upd_ne (by omega), upd_ne (by omega), upd_ne (by omega)]; exact a3
        · rw [upd_ne (by omega), upd_ne (by omega), upd_ne (by omega), upd_ne (by omega), upd_ne (by omega)]; exact a4
        · rw [upd_ne (by omega), upd_ne (by omega), upd_ne (by omega), upd_ne (by omega), upd_ne (by omega)]; exact a5
  refine g_iconst (pc' := 1) (v := 0) rfl rfl (by decide) ?_
  refine g_istore_n (pc' := 2) rfl rfl rfl ?_
  exact loop 10 0 m rfl Fr.rf (fun j hj => absurd hj (by omega))
theorem mixS_h {p : Nat} : uD (mixS (hdAt m) (stAt m p) 10) (sD (hdAt m)) = hdAt m := by
  have h : ∀ f g : Nat → Int32, (fun k => if k < 10 then cut 10 f k else cut 10 g k) = cut 10 f := fun f g => by
    funext k
    by_cases hk : k < 10
    · simp [hk]
    · simp [hk, cut]
  unfold mixS uD
  simp only [sH, sC, sS, sO, sI, sD, stAt, hdAt, h]
theorem d_back {K : Int32 → aMem → Prop} {v : Int32} (h : ∀ m', Fr 53 59 m m' → stAt m' 53 = hdAt m → (∀ i, i ≠ 5 → m'.1 53 i = m.1 53 i) → K v m') : gCi X 129 [.ref 53, .int v] m K := by
  refine g_inI rfl ?_
  have loop : ∀ (d i : Nat) (m1 : aMem), i + d = 10 → Fr 53 59 m m1 → stAt m1 53 = mixS (hdAt m) (stAt m 53) i → m1.1 53 = m.1 53 → gG X 129 2 [.ref 53, .int v, .int (nI i)] [] m1 (fun r m' => ∃ v, r = some (.int v) ∧ K v m') := by
    intro d
    induction d with
    | zero =>
      intro i m1 hd hF hs h53
      have hi : i = 10 := by omega
      subst hi
      refine g_iload_n (pc' := 3) rfl rfl rfl ?_
      refine g_bipush (pc' := 5) (v := 10) rfl rfl (by decide) ?_
      refine g_icmp_ge (pc' := 8) (t := 86) rfl rfl rfl (fun c_5 => ?_) (fun c_5 => absurd (by decide) c_5)
      refine g_aload_n (pc' := 87) rfl rfl rfl ?_
      refine g_aload_n (pc' := 88) rfl rfl rfl ?_
      refine g_getr (pc' := 91) rfl rfl (f_11_17) ?_
      refine g_bipush (pc' := 93) (v := 50) rfl rfl (by decide) ?_
      refine g_iald (pc' := 94) rfl rfl (a_65) (k := 50) (by decide) rfl ?_
      refine g_vi (y := sD (hdAt m)) (congrFun (hF.i (q := 65) (by omega)) 50) ?_
      refine g_puti (pc' := 97) rfl rfl (i_11_5) ?_
      refine g_iload_n (pc' := 98) rfl rfl rfl ?_
      exact g_ireturn rfl rfl (h _ (hF.s (by omega) (by omega)) (by rw [show stAt (am_wi m1.1 53 5 (sD (hdAt m)), m1.2) 53 = uD (stAt m1 53) (sD (hdAt m)) from st_wD, hs]; exact mixS_h) (fun i hi => by show am_wi m1.1 53 5 _ 53 i = _; rw [am_wi_s, upd_ne hi, h53]))
    | succ d ih =>
      intro i m1 hd hF hs h53
      have hlt : i < 10 := by omega
      refine g_iload_n (pc' := 3) rfl rfl rfl ?_
      refine g_bipush (pc' := 5) (v := 10) rfl rfl (by decide) ?_
      refine g_icmp_ge (pc' := 8) (t := 86) rfl rfl rfl (fun c_5 => absurd c_5 (nI_ge (b := 10) hlt (by decide))) (fun c_5 => ?_)
      refine g_aload_n (pc' := 9) rfl rfl rfl ?_
      refine g_getr (pc' := 12) rfl rfl (f_11_0) ?_
      refine g_iload_n (pc' := 13) rfl rfl rfl ?_
      refine g_aload_n (pc' := 14) rfl rfl rfl ?_
      refine g_getr (pc' := 17) rfl rfl (f_11_17) ?_
      refine g_iload_n (pc' := 18) rfl rfl rfl ?_
      refine g_iald (pc' := 19) rfl rfl (a_65) (k := i) (by omega) rfl ?_
      refine g_vi (y := sH (hdAt m) i) ((congrFun (hF.i (q := 65) (by omega)) _).trans (hd_r hlt).1) ?_
      refine g_iast (pc' := 20) rfl rfl (a_54) hlt rfl ?_
      refine g_aload_n (pc' := 21) rfl rfl rfl ?_
      refine g_getr (pc' := 24) rfl rfl (f_11_1) ?_
      refine g_iload_n (pc' := 25) rfl rfl rfl ?_
      refine g_aload_n (pc' := 26) rfl rfl rfl ?_
      refine g_getr (pc' := 29) rfl rfl (f_11_17) ?_
      refine g_bipush (pc' := 31) (v := 10) rfl rfl (by decide) ?_
      refine g_iload_n (pc' := 32) rfl rfl rfl ?_
      refine g_iadd (pc' := 33) rfl rfl ?_
      refine g_vi (y := nI (10 + i)) (nI_add 10 i) ?_
      refine g_iald (pc' := 34) rfl rfl (a_65) (k := 10 + i) (by omega) rfl ?_
      refine g_vi (y := sC (hdAt m) i) ((congrFun ((hF.s (by omega) (by omega)).i (q := 65) (by omega)) _).trans (hd_r hlt).2.1) ?_
      refine g_iast (pc' := 35) rfl rfl (a_55) hlt rfl ?_
      refine g_aload_n (pc' := 36) rfl rfl rfl ?_
      refine g_getr (pc' := 39) rfl rfl (f_11_2) ?_
      refine g_iload_n (pc' := 40) rfl rfl rfl ?_
      refine g_aload_n (pc' := 41) rfl rfl rfl ?_
      refine g_getr (pc' := 44) rfl rfl (f_11_17) ?_
      refine g_bipush (pc' := 46) (v := 20) rfl rfl (by decide) ?_
      refine g_iload_n (pc' := 47) rfl rfl rfl ?_
      refine g_iadd (pc' := 48) rfl rfl ?_
      refine g_vi (y := nI (20 + i)) (nI_add 20 i) ?_
      refine g_iald (pc' := 49) rfl rfl (a_65) (k := 20 + i) (by omega) rfl ?_
      refine g_vi (y := sS (hdAt m) i) ((congrFun (((hF.s (by omega) (by omega)).s (by omega) (by omega)).i (q := 65) (by omega)) _).trans (hd_r hlt).2.2.1) ?_
      refine g_iast (pc' := 50) rfl rfl (a_56) hlt rfl ?_
      refine g_aload_n (pc' := 51) rfl rfl rfl ?_
      refine g_getr (pc' := 54) rfl rfl (f_11_3) ?_
      refine g_iload_n (pc' := 55) rfl rfl rfl ?_
      refine g_aload_n (pc' := 56) rfl rfl rfl ?_
      refine g_getr (pc' := 59) rfl rfl (f_11_17) ?_
      refine g_bipush (pc' := 61) (v := 30) rfl rfl (by decide) ?_
      refine g_iload_n (pc' := 62) rfl rfl rfl ?_
      refine g_iadd (pc' := 63) rfl rfl ?_
      refine g_vi (y := nI (30 + i)) (nI_add 30 i) ?_
      refine g_iald (pc' := 64) rfl rfl (a_65) (k := 30 + i) (by omega) rfl ?_
      refine g_vi (y := sO (hdAt m) i) ((congrFun ((((hF.s (by omega) (by omega)).s (by omega) (by omega)).s (by omega) (by omega)).i (q := 65) (by omega)) _).trans (hd_r hlt).2.2.2.1) ?_
      refine g_iast (pc' := 65) rfl rfl (a_57) hlt rfl ?_
      refine g_aload_n (pc' := 66) rfl rfl rfl ?_
      refine g_getr (pc' := 69) rfl rfl (f_11_4) ?_
      refine g_iload_n (pc' := 70) rfl rfl rfl ?_
      refine g_aload_n (pc' := 71) rfl rfl rfl ?_
      refine g_getr (pc' := 74) rfl rfl (f_11_17) ?_
      refine g_bipush (pc' := 76) (v := 40) rfl rfl (by decide) ?_
      refine g_iload_n (pc' := 77) rfl rfl rfl ?_
      refine g_iadd (pc' := 78) rfl rfl ?_
      refine g_vi (y := nI (40 + i)) (nI_add 40 i) ?_
      refine g_iald (pc' := 79) rfl rfl (a_65) (k := 40 + i) (by omega) rfl ?_
      refine g_vi (y := sI (hdAt m) i) ((congrFun (((((hF.s (by omega) (by omega)).s (by omega) (by omega)).s (by omega) (by omega)).s (by omega) (by omega)).i (q := 65) (by omega)) _).trans (hd_r hlt).2.2.2.2) ?_
      refine g_iast (pc' := 80) rfl rfl (a_58) hlt rfl ?_
      refine g_iinc (pc' := 83) (v := nI (i + 1)) rfl rfl rfl (nI_1 i) rfl ?_
      refine g_goto (pc' := 2) rfl rfl ?_
      exact ih (i + 1) _ (by omega) (((((hF.s (by omega) (by omega)).s (by omega) (by omega)).s (by omega) (by omega)).s (by omega) (by omega)).s (by omega) (by omega)) (by rw [w_I hlt, w_O hlt, w_S hlt, w_C hlt, w_H hlt, hs, mixS_s]) (x58.trans (x57.trans (x56.trans (x55.trans (x54.trans h53)))))
  refine g_iconst (pc' := 1) (v := 0) rfl rfl (by decide) ?_
  refine g_istore_n (pc' := 2) rfl rfl rfl ?_
  exact loop 10 0 m rfl Fr.rf (mixS_0 _ _).symm rfl
/-- only the arrays of acts, and how many they are, have changed -/
def FF (m m' : aMem) : Prop := (∀ q, q ≠ 53 → q ≠ 62 → q ≠ 63 → q ≠ 64 → m'.1 q = m.1 q) ∧ m'.2 = m.2 ∧ ∀ i, i ≠ 14 → m'.1 53 i = m.1 53 i
theorem FF.rf : FF m m := ⟨fun _ _ _ _ _ => rfl, rfl, fun _ _ => rfl⟩
theorem FF.tr {m1 m2 : aMem} (h : FF m m1) (h' : FF m1 m2) : FF m m2 := ⟨fun q a b c d => (h'.1 q a b c d).trans (h.1 q a b c d), h'.2.1.trans h.2.1, fun i hi => (h'.2.2 i hi).trans (h.2.2 i hi)⟩
theorem FF.a {m1 : aMem} {o i : Nat} {v : Int32} (h : FF m m1) (ho : o = 62 ∨ o = 63 ∨ o = 64) : FF m (am_wi m1.1 o i v, m1.2) := h.tr ⟨fun q a b c d => by show am_wi m1.1 o i v q = _; rw [am_wi_n (by omega)], rfl, fun i _ => by show am_wi m1.1 o _ v 53 i = _; rw [am_wi_n (by omega)]⟩
theorem FF.c {m1 : aMem} {v : Int32} (h : FF m m1) : FF m (am_wi m1.1 53 14 v, m1.2) := h.tr ⟨fun q a b c d => by show am_wi m1.1 53 14 v q = _; rw [am_wi_n a], rfl, fun i hi => by show am_wi m1.1 53 14 v 53 i = _; rw [am_wi_s, upd_ne hi]⟩
/-- the arrays hold these acts -/
def AL (m : aMem) (l : List aAct) : Prop := m.1 53 14 = nI l.length ∧ ∀ (j : Nat) (x : aAct), l[j]? = some x → m.1 62 j = nI x.1 ∧ m.1 63 j = nI x.2.1 ∧ m.1 64 j = nI x.2.2
theorem AL.w63 {l : List aAct} {v : Int32} (h : AL m l) : AL (am_wi m.1 63 l.length v, m.2) l := by
  refine ⟨?_, fun j x hj => ?_⟩
  · show am_wi m.1 63 l.length v 53 14 = nI l.length
    rw [am_wi_n (by decide)]
    exact h.1
  · obtain ⟨h1, h2, h3⟩ := h.2 j x hj
    have hlt := (List.getElem?_eq_some_iff.mp hj).1
    refine ⟨?_, ?_, ?_⟩
    · show am_wi m.1 63 l.length v 62 j = nI x.1
      rw [am_wi_n (by decide)]; exact h1
    · show am_wi m.1 63 l.length v 63 j = nI x.2.1
      rw [am_wi_s, upd_ne (by omega)]; exact h2
    · show am_wi m.1 63 l.length v 64 j = nI x.2.2
      rw [am_wi_n (by decide)]; exact h3
variable {K : Int32 → aMem → Prop} {l : List aAct}
theorem d_close {kd b w : Nat} (hA : AL m l) (hl : l.length < 60) (hw : m.1 63 l.length = nI w) (h : ∀ m', FF m m' → AL m' (l ++ [(kd, w, b)]) → K 0 m') : gCi X 116 [.ref 53, .int (nI kd), .int (nI b)] m K := by
  refine g_inI rfl ?_
  refine g_aload_n (pc' := 1) rfl rfl rfl ?_
  refine g_getr (pc' := 4) rfl rfl (f_11_11) ?_
  refine g_aload_n (pc' := 5) rfl rfl rfl ?_
  refine g_geti (pc' := 8) rfl rfl (i_11_14) ?_
  refine g_vi (y := nI l.length) (hA.1) ?_
  refine g_iload_n (pc' := 9) rfl rfl rfl ?_
  refine g_iast (pc' := 10) rfl rfl (a_62) hl rfl ?_
  refine g_aload_n (pc' := 11) rfl rfl rfl ?_
  refine g_getr (pc' := 14) rfl rfl (f_11_13) ?_
  refine g_aload_n (pc' := 15) rfl rfl rfl ?_
  refine g_geti (pc' := 18) rfl rfl (i_11_14) ?_
  refine g_vi (y := nI l.length) (by show am_wi m.1 62 l.length (nI kd) 53 14 = nI l.length; rw [am_wi_n (by decide)]; exact hA.1) ?_
  refine g_iload_n (pc' := 19) rfl rfl rfl ?_
  refine g_iast (pc' := 20) rfl rfl (a_64) hl rfl ?_
  refine g_aload_n (pc' := 21) rfl rfl rfl ?_
  refine g_dup (pc' := 22) rfl rfl rfl ?_
  refine g_geti (pc' := 25) rfl rfl (i_11_14) ?_
  refine g_vi (y := nI l.length) (by show am_wi (am_wi m.1 62 l.length (nI kd)) 64 l.length (nI b) 53 14 = nI l.length; rw [am_wi_n (by decide), am_wi_n (by decide)]; exact hA.1) ?_
  refine g_iconst (pc' := 26) (v := 1) rfl rfl (by decide) ?_
  refine g_iadd (pc' := 27) rfl rfl ?_
  refine g_vi (y := nI (l.length + 1)) (nI_1 _) ?_
  refine g_puti (pc' := 30) rfl rfl (i_11_14) ?_
  refine g_iconst (pc' := 31) (v := 0) rfl rfl (by decide) ?_
  exact g_ireturn rfl rfl (h _ (((FF.rf.a (Or.inl rfl)).a (Or.inr (Or.inr rfl))).c) (by
        refine ⟨?_, fun j x hj => ?_⟩
        · simp only [am_wi_s]
          rw [upd_at, List.length_append]
          rfl
        · show am_wi (am_wi (am_wi m.1 62 l.length (nI kd)) 64 l.length (nI b)) 53 14 (nI (l.length + 1)) 62 j = nI x.1 ∧ am_wi (am_wi (am_wi m.1 62 l.length (nI kd)) 64 l.length (nI b)) 53 14 (nI (l.length + 1)) 63 j = nI x.2.1 ∧ am_wi (am_wi (am_wi m.1 62 l.length (nI kd)) 64 l.length (nI b)) 53 14 (nI (l.length + 1)) 64 j = nI x.2.2
          have e2 : am_wi (am_wi (am_wi m.1 62 l.length (nI kd)) 64 l.length (nI b)) 53 14 (nI (l.length + 1)) 62 j = am_wi m.1 62 l.length (nI kd) 62 j := by rw [am_wi_n (by decide), am_wi_n (by decide)]
          have e3 : am_wi (am_wi (am_wi m.1 62 l.length (nI kd)) 64 l.length (nI b)) 53 14 (nI (l.length + 1)) 63 j = m.1 63 j := by rw [am_wi_n (by decide), am_wi_n (by decide), am_wi_n (by decide)]
          have e4 : am_wi (am_wi (am_wi m.1 62 l.length (nI kd)) 64 l.length (nI b)) 53 14 (nI (l.length + 1)) 64 j = am_wi (am_wi m.1 62 l.length (nI kd)) 64 l.length (nI b) 64 j := by rw [am_wi_n (by decide)]
          have e5 : am_wi m.1 62 l.length (nI kd) 64 = m.1 64 := by rw [am_wi_n (by decide)]
          rw [e2, e3, e4, am_wi_s, am_wi_s, e5]
          by_cases e : j < l.length
          · rw [List.getElem?_append_left e] at hj
            obtain ⟨h1, h2, h3⟩ := hA.2 j x hj
            rw [upd_ne (by omega), upd_ne (by omega)]
            exact ⟨h1, h2, h3⟩
          · rw [List.getElem?_append_right (by omega)] at hj
            have e0 : j - l.length = 0 := by
              have := (List.getElem?_eq_some_iff.mp hj).1
              simp at this
              omega
            have e1 : j = l.length := by omega
            rw [e0] at hj
            cases hj
            subst e1
            rw [upd_at, upd_at]
            exact ⟨rfl, hw, rfl⟩))
end M3
