/-! TELLING -/
abbrev aAct : Type := Nat × Nat × Nat
/-- street, acts, the bad act, why, how many broke, by which act first, which first -/
abbrev aTl : Type := aStr × Nat × Int32 × Int32 × Nat × Int32 × Int32
def letN (x : Int32) : Nat := x.toNatClampNeg - 65
def dgN (x : Int32) : Nat := x.toNatClampNeg - 48
def actAt (g : Nat → Int32) (q : Nat) : aAct := (kindAt g q, if kindAt g q = 3 then 0 else letN (g q), if kindAt g q = 0 then letN (g (q + 2)) else if kindAt g q = 2 then dgN (g (q + 1)) else 0)
def parseA (g : Nat → Int32) (n : Nat) : Nat → Nat → Option (List aAct)
  | 0, _ => some []
  | d + 1, q => if q < n then (if faultAt g q = -6 then (parseA g n d (q + lenAt g q)).map (actAt g q :: ·) else none) else some []
def noteT (T : aTl) (v : Int32) : aTl := match T with
  | (s, ac, bad, wh, br, fa, fn) => if v = -6 then T else (s, ac, bad, wh, br + 1, if br = 0 then nI ac else fa, if br = 0 then v else fn)
def upT (T : aTl) (s : aStr) : aTl := match T with
  | (_, ac, bad, wh, br, fa, fn) => (s, ac, bad, wh, br, fa, fn)
def incT (T : aTl) : aTl := match T with
  | (s, ac, bad, wh, br, fa, fn) => (s, ac + 1, bad, wh, br, fa, fn)
def tell1 (T : aTl) (x : aAct) : aTl := if whyS T.1 x.1 x.2.1 x.2.2 = 0 then incT (noteT (upT T (actS T.1 x.1 x.2.1 x.2.2).1) (actS T.1 x.1 x.2.1 x.2.2).2) else match T with
  | (s, ac, _, _, br, fa, fn) => (s, ac, nI ac, whyS T.1 x.1 x.2.1 x.2.2, br, fa, fn)
def badT (T : aTl) : Int32 := T.2.2.1
def tellL : aTl → List aAct → aTl
  | T, [] => T
  | T, x :: l => if badT T = -6 then tellL (tell1 T x) l else T
def T0 (s : aStr) : aTl := (s, 0, -6, -6, 0, -6, -6)
def TR (m : aMem) (T : aTl) : Prop := stAt m 11 = T.1 ∧ m.1 10 1 = nI T.2.1 ∧ m.1 10 2 = T.2.2.1 ∧ m.1 10 3 = T.2.2.2.1 ∧ m.1 10 4 = nI T.2.2.2.2.1 ∧ m.1 10 5 = T.2.2.2.2.2.1 ∧ m.1 10 6 = T.2.2.2.2.2.2
theorem letN_k {k : Nat} (h : k < 10) : letN (nI (65 + k)) = k := by
  unfold letN
  rw [nI_clamp (by omega)]
  omega
theorem dgN_k {k : Nat} (h : k < 4) : dgN (nI (48 + k)) = k := by
  unfold dgN
  rw [nI_clamp (by omega)]
  omega
/-- an act that has no fault -/
theorem act_ok {g : Nat → Int32} {q : Nat} (h : faultAt g q = -6) (hq : q < 100) : (kindAt g q = 3 ∧ g q = 46) ∨ (¬ g q = 46 ∧ (∃ a, a < 10 ∧ g q = nI (65 + a)) ∧ ((kindAt g q = 0 ∧ ∃ b, b < 10 ∧ g (q + 2) = nI (65 + b)) ∨ kindAt g q = 1 ∨ (kindAt g q = 2 ∧ ∃ b, b < 4 ∧ g (q + 1) = nI (48 + b)))) := by
  unfold faultAt at h
  unfold kindAt
  by_cases h1 : g q = 46
  · left; simp [h1]
  · right
    rw [if_neg h1] at h
    by_cases h2 : isL (g q) = true
    · rw [if_pos h2] at h
      refine ⟨h1, isL_k h2, ?_⟩
      by_cases h3 : g (q + 1) = 62
      · left
        rw [if_pos h3] at h
        by_cases h4 : isL (g (q + 2)) = true
        · exact ⟨by rw [if_neg h1, if_pos h3], isL_k h4⟩
        · rw [if_neg h4] at h
          exact absurd h (nI_ne6 (by omega))
      · right
        rw [if_neg h3] at h
        by_cases h5 : g (q + 1) = 42
        · left; rw [if_neg h1, if_neg h3, if_pos h5]
        · right
          by_cases h6 : isDg (g (q + 1)) = true
          · exact ⟨by rw [if_neg h1, if_neg h3, if_neg h5], isDg_k h6⟩
          · rw [if_neg (fun z => z.elim h5 h6)] at h
            exact absurd h (nI_ne6 (by omega))
    · rw [if_neg h2] at h
      exact absurd h (nI_ne6 (by omega))
theorem parse_none {g : Nat → Int32} {n : Nat} : ∀ d q, (parseA g n d q = none ↔ ¬ findF g n d q = -6)
  | 0, q => by simp [parseA, findF]
  | d + 1, q => by
    unfold parseA findF
    by_cases h1 : q < n
    · rw [if_pos h1, if_pos h1]
      by_cases h2 : faultAt g q = -6
      · rw [if_pos h2, if_pos h2, Option.map_eq_none_iff]
        exact parse_none d _
      · rw [if_neg h2, if_neg h2]
        simp [h2]
    · rw [if_neg h1, if_neg h1]
      simp
section C6
variable {X : aX} {m : aMem}
theorem tl_w {k : Nat} {v : Int32} (i : Nat) : (am_wi m.1 10 k v) 10 i = if i = k then v else m.1 10 i := by
  rw [am_wi_s]
  rfl
theorem c_noteBreak {K : aMem → Prop} {T : aTl} {v : Int32} (hT : TR m T) (hb : T.2.2.2.2.1 < 1000) (h : ∀ m', Fr 10 11 m m' → TR m' (noteT T v) → K m') : gCv X 74 [.ref 10, .int v] m K := by
  refine g_inV rfl ?_
  obtain ⟨s, ac, bad, wh, br, fa, fn⟩ := T
  obtain ⟨h1, h2, h3, h4, h5, h6, h7⟩ := hT
  dsimp only at h1 h2 h3 h4 h5 h6 h7 hb
  refine g_iload_n (pc' := 1) rfl rfl rfl ?_
  refine g_bipush (pc' := 3) (v := -6) rfl rfl (by decide) ?_
  refine g_icmp_ne (pc' := 6) (t := 7) rfl rfl rfl (fun c_3 => ?_) (fun c_3 => ?_)
  · refine g_aload_n (pc' := 8) rfl rfl rfl ?_
    refine g_geti (pc' := 11) rfl rfl (i_9_4) ?_
    refine g_vi (y := nI br) (h5) ?_
    refine g_if_ne (pc' := 14) (t := 27) rfl rfl rfl (fun c_11 => ?_) (fun c_11 => ?_)
    · refine g_aload_n (pc' := 28) rfl rfl rfl ?_
      refine g_dup (pc' := 29) rfl rfl rfl ?_
      refine g_geti (pc' := 32) rfl rfl (i_9_4) ?_
      refine g_vi (y := nI br) (h5) ?_
      refine g_iconst (pc' := 33) (v := 1) rfl rfl (by decide) ?_
      refine g_iadd (pc' := 34) rfl rfl ?_
      refine g_vi (y := nI (br + 1)) (nI_1 br) ?_
      refine g_puti (pc' := 37) rfl rfl (i_9_4) ?_
      exact g_return rfl rfl (h _ (Fr.rf.s (by omega) (by omega)) (by
          unfold noteT
          dsimp only
          have hb0 : ¬ br = 0 := fun z => c_11 (by rw [z]; rfl)
          rw [if_neg c_3, if_neg hb0, if_neg hb0]
          refine ⟨(st_wx (Or.inl (by decide))).trans h1, ?_, ?_, ?_, ?_, ?_, ?_⟩ <;> (simp only [tl_w]; first | rfl | assumption)))
    · refine g_aload_n (pc' := 15) rfl rfl rfl ?_
      refine g_aload_n (pc' := 16) rfl rfl rfl ?_
      refine g_geti (pc' := 19) rfl rfl (i_9_1) ?_
      refine g_vi (y := nI ac) (h2) ?_
      refine g_puti (pc' := 22) rfl rfl (i_9_5) ?_
      refine g_aload_n (pc' := 23) rfl rfl rfl ?_
      refine g_iload_n (pc' := 24) rfl rfl rfl ?_
      refine g_puti (pc' := 27) rfl rfl (i_9_6) ?_
      refine g_aload_n (pc' := 28) rfl rfl rfl ?_
      refine g_dup (pc' := 29) rfl rfl rfl ?_
      refine g_geti (pc' := 32) rfl rfl (i_9_4) ?_
      refine g_vi (y := nI br) (by simp only [am_wi_s, upd]; simpa using h5) ?_
      refine g_iconst (pc' := 33) (v := 1) rfl rfl (by decide) ?_
      refine g_iadd (pc' := 34) rfl rfl ?_
      refine g_vi (y := nI (br + 1)) (nI_1 br) ?_
      refine g_puti (pc' := 37) rfl rfl (i_9_4) ?_
      exact g_return rfl rfl (h _ (((Fr.rf.s (by omega) (by omega)).s (by omega) (by omega)).s (by omega) (by omega)) (by
          unfold noteT
          dsimp only
          have hb0 : br = 0 := (nIk0 hb).mp c_11
          rw [if_neg c_3, if_pos hb0, if_pos hb0]
          refine ⟨(st_wx (Or.inl (by decide))).trans ((st_wx (Or.inl (by decide))).trans ((st_wx (Or.inl (by decide))).trans h1)), ?_, ?_, ?_, ?_, ?_, ?_⟩ <;> (simp only [am_wi_s, upd]; first | rfl | assumption)))
  · exact g_return rfl rfl (h m Fr.rf (by unfold noteT; dsimp only; rw [if_pos c_3]; exact ⟨h1, h2, h3, h4, h5, h6, h7⟩))
theorem tl_inc {T : aTl} (h : TR m T) : TR (am_wi m.1 10 1 (m.1 10 1 + 1), m.2) (incT T) := by
  obtain ⟨s, ac, bad, wh, br, fa, fn⟩ := T
  obtain ⟨h1, h2, h3, h4, h5, h6, h7⟩ := h
  dsimp only at h1 h2 h3 h4 h5 h6 h7
  refine ⟨(st_wx (Or.inl (by decide))).trans h1, ?_, ?_, ?_, ?_, ?_, ?_⟩
  · simp only [tl_w]
    show m.1 10 1 + 1 = nI (ac + 1)
    rw [h2, nI_1]
  all_goals (simp only [tl_w]; first | rfl | assumption)
theorem c_tellAct3 {K : aMem → Prop} {T : aTl} {n q : Nat} (hn : m.1 8 1 = nI n) (h60 : n ≤ 60) (hq : q < 100) (hT : TR m T) (hb : T.2.2.2.2.1 < 1000) (hkd : kindAt (sg n (m.1 9)) q = 3) (h : ∀ m', Fr 10 17 m m' → TR m' (tell1 T (3, 0, 0)) → K m') : gCv X 73 [.ref 10, .ref 8, .int (nI q)] m K := by
  refine g_inV rfl ?_
  obtain ⟨s, ac, bad, wh, br, fa, fn⟩ := T
  have hT0 := hT
  obtain ⟨h1, h2, h3, h4, h5, h6, h7⟩ := hT
  dsimp only at h1 h2 h3 h4 h5 h6 h7 hb
  refine g_aload_n (pc' := 1) rfl rfl rfl ?_
  refine g_iload_n (pc' := 2) rfl rfl rfl ?_
  refine g_calli (pc' := 5) rfl rfl rfl rfl (Or.inr rfl) ?_
  refine c_kindOfActAt hn h60 hq ?_
  rw [hkd]
  refine g_istore_n (pc' := 6) rfl rfl rfl ?_
  refine g_iload_n (pc' := 7) rfl rfl rfl ?_
  refine g_iconst (pc' := 8) (v := 3) rfl rfl (by decide) ?_
  refine g_icmp_ne (pc' := 11) (t := 15) rfl rfl rfl (fun c => absurd c (by decide)) (fun _ => ?_)
  refine g_iconst (pc' := 12) (v := 0) rfl rfl (by decide) ?_
  refine g_goto (pc' := 20) rfl rfl ?_
  refine g_istore (pc' := 22) rfl rfl rfl ?_
  refine g_iload_n (pc' := 23) rfl rfl rfl ?_
  refine g_if_ne (pc' := 26) (t := 36) rfl rfl rfl (fun _ => ?_) (fun c => absurd c (by decide))
  refine g_iload_n (pc' := 37) rfl rfl rfl ?_
  refine g_iconst (pc' := 38) (v := 2) rfl rfl (by decide) ?_
  refine g_icmp_ne (pc' := 41) (t := 51) rfl rfl rfl (fun _ => ?_) (fun c => absurd c (by decide))
  refine g_iconst (pc' := 52) (v := 0) rfl rfl (by decide) ?_
  refine g_istore (pc' := 54) rfl rfl rfl ?_
  refine g_iload (pc' := 56) rfl rfl rfl ?_
  refine g_iconst (pc' := 57) (v := -1) rfl rfl (by decide) ?_
  refine g_icmp_eq (pc' := 60) (t := 66) rfl rfl rfl (fun c => absurd c (by decide)) (fun _ => ?_)
  refine g_iload (pc' := 62) rfl rfl rfl ?_
  refine g_iconst (pc' := 63) (v := -1) rfl rfl (by decide) ?_
  refine g_icmp_ne (pc' := 66) (t := 67) rfl rfl rfl (fun _ => ?_) (fun c => absurd c (by decide))
  refine g_aload_n (pc' := 68) rfl rfl rfl ?_
  refine g_getr (pc' := 71) rfl rfl (f_9_0) ?_
  refine g_iload_n (pc' := 72) rfl rfl rfl ?_
  refine g_iload (pc' := 74) rfl rfl rfl ?_
  refine g_iload (pc' := 76) rfl rfl rfl ?_
  refine g_calli (pc' := 79) rfl rfl rfl rfl (Or.inr (rc_S isS_11)) ?_
  refine c_whyNot (kd := 3) (a := 0) (b := 0) isS_11 (by decide) (by decide) (fun z => by decide) ?_
  refine g_topi (fun w hw => ?_)
  refine g_istore (pc' := 81) rfl rfl rfl ?_
  refine g_iload (pc' := 83) rfl rfl rfl ?_
  refine g_if_eq (pc' := 86) (t := 101) rfl rfl rfl (fun c_83 => ?_) (fun c_83 => ?_)
  · refine g_aload_n (pc' := 102) rfl rfl rfl ?_
    refine g_aload_n (pc' := 103) rfl rfl rfl ?_
    refine g_getr (pc' := 106) rfl rfl (f_9_0) ?_
    refine g_iload_n (pc' := 107) rfl rfl rfl ?_
    refine g_iload (pc' := 109) rfl rfl rfl ?_
    refine g_iload (pc' := 111) rfl rfl rfl ?_
    refine g_calli (pc' := 114) rfl rfl rfl rfl (Or.inr (rc_S isS_11)) ?_
    refine c_perform (kd := 3) (a := 0) (b := 0) isS_11 (by decide) (by decide) (fun z => by decide) (fun m1 f1 e1 => ?_)
    refine g_callv (pc' := 117) rfl rfl rfl rfl (Or.inr rfl) ?_
    refine c_noteBreak (T := upT (s, ac, bad, wh, br, fa, fn) (actS s 3 0 0).1) ⟨e1.trans (by rw [h1]; rfl), by rw [f1.i (by omega)]; exact h2, by rw [f1.i (by omega)]; exact h3, by rw [f1.i (by omega)]; exact h4, by rw [f1.i (by omega)]; exact h5, by rw [f1.i (by omega)]; exact h6, by rw [f1.i (by omega)]; exact h7⟩ hb (fun m2 f2 t2 => ?_)
    rw [h1] at t2
    refine g_aload_n (pc' := 118) rfl rfl rfl ?_
    refine g_dup (pc' := 119) rfl rfl rfl ?_
    refine g_geti (pc' := 122) rfl rfl (i_9_1) ?_
    refine g_iconst (pc' := 123) (v := 1) rfl rfl (by decide) ?_
    refine g_iadd (pc' := 124) rfl rfl ?_
    refine g_puti (pc' := 127) rfl rfl (i_9_1) ?_
    exact g_return rfl rfl (h _ (((f1.wide (by decide) (by decide)).tr (f2.wide (by decide) (by decide))).s (by omega) (by omega)) (by
        have hw0 : whyS s 3 0 0 = 0 := by rw [← h1, ← hw]; exact c_83
        have e0 : tell1 (s, ac, bad, wh, br, fa, fn) (3, 0, 0) = incT (noteT (upT (s, ac, bad, wh, br, fa, fn) (actS s 3 0 0).1) (actS s 3 0 0).2) := by unfold tell1; rw [if_pos hw0]
        rw [e0]
        exact tl_inc t2))
  · refine g_aload_n (pc' := 87) rfl rfl rfl ?_
    refine g_aload_n (pc' := 88) rfl rfl rfl ?_
    refine g_geti (pc' := 91) rfl rfl (i_9_1) ?_
    refine g_vi (y := nI ac) (h2) ?_
    refine g_puti (pc' := 94) rfl rfl (i_9_2) ?_
    refine g_aload_n (pc' := 95) rfl rfl rfl ?_
    refine g_iload (pc' := 97) rfl rfl rfl ?_
    refine g_puti (pc' := 100) rfl rfl (i_9_3) ?_
    exact g_return rfl rfl (h _ ((Fr.rf.s (by omega) (by omega)).s (by omega) (by omega)) (by
        have hw0 : ¬ whyS s 3 0 0 = 0 := by rw [← h1, ← hw]; exact c_83
        have e0 : tell1 (s, ac, bad, wh, br, fa, fn) (3, 0, 0) = (s, ac, nI ac, whyS s 3 0 0, br, fa, fn) := by unfold tell1; rw [if_neg hw0]
        rw [e0, ← h1, ← hw]
        refine ⟨(st_wx (Or.inl (by decide))).trans (st_wx (Or.inl (by decide))), ?_, ?_, ?_, ?_, ?_, ?_⟩ <;> (simp only [am_wi_s, upd]; first | rfl | assumption)))
theorem c_tellAct0 {K : aMem → Prop} {T : aTl} {n q a b : Nat} (hn : m.1 8 1 = nI n) (h60 : n ≤ 60) (hq : q < 100) (hT : TR m T) (hb : T.2.2.2.2.1 < 1000) (hkd : kindAt (sg n (m.1 9)) q = 0) (ha : a < 10) (ea : (sg n (m.1 9)) q = nI (65 + a)) (hbb : b < 10) (eb : (sg n (m.1 9)) (q + 2) = nI (65 + b)) (h : ∀ m', Fr 10 17 m m' → TR m' (tell1 T (0, a, b)) → K m') : gCv X 73 [.ref 10, .ref 8, .int (nI q)] m K := by
  refine g_inV rfl ?_
  obtain ⟨s, ac, bad, wh, br, fa, fn⟩ := T
  have hT0 := hT
  obtain ⟨h1, h2, h3, h4, h5, h6, h7⟩ := hT
  dsimp only at h1 h2 h3 h4 h5 h6 h7 hb
  refine g_aload_n (pc' := 1) rfl rfl rfl ?_
  refine g_iload_n (pc' := 2) rfl rfl rfl ?_
  refine g_calli (pc' := 5) rfl rfl rfl rfl (Or.inr rfl) ?_
  refine c_kindOfActAt hn h60 hq ?_
  rw [hkd]
  refine g_istore_n (pc' := 6) rfl rfl rfl ?_
  refine g_iload_n (pc' := 7) rfl rfl rfl ?_
  refine g_iconst (pc' := 8) (v := 3) rfl rfl (by decide) ?_
  refine g_icmp_ne (pc' := 11) (t := 15) rfl rfl rfl (fun _ => ?_) (fun c => absurd c (by decide))
  refine g_aload_n (pc' := 16) rfl rfl rfl ?_
  refine g_iload_n (pc' := 17) rfl rfl rfl ?_
  refine g_calli (pc' := 20) rfl rfl rfl rfl (Or.inr rfl) ?_
  refine c_nutAt hn h60 (by omega) (fun a2 ha2 e2 => ?_) (fun z => ?_)
  · obtain rfl : a = a2 := by have := congrArg letN (ea.symm.trans e2); rw [letN_k ha2, letN_k ha] at this; exact this
    refine g_istore (pc' := 22) rfl rfl rfl ?_
    refine g_iload_n (pc' := 23) rfl rfl rfl ?_
    refine g_if_ne (pc' := 26) (t := 36) rfl rfl rfl (fun c => absurd c (by decide)) (fun _ => ?_)
    refine g_aload_n (pc' := 27) rfl rfl rfl ?_
    refine g_iload_n (pc' := 28) rfl rfl rfl ?_
    refine g_iconst (pc' := 29) (v := 2) rfl rfl (by decide) ?_
    refine g_iadd (pc' := 30) rfl rfl ?_
    refine g_vi (y := nI (q + 2)) (nI_add q 2) ?_
    refine g_calli (pc' := 33) rfl rfl rfl rfl (Or.inr rfl) ?_
    refine c_nutAt hn h60 (by omega) (fun b2 hb2 f2 => ?_) (fun z => ?_)
    · refine g_goto (pc' := 52) rfl rfl ?_
      obtain rfl : b = b2 := by have := congrArg letN (eb.symm.trans f2); rw [letN_k hb2, letN_k hbb] at this; exact this
      refine g_istore (pc' := 54) rfl rfl rfl ?_
      refine g_iload (pc' := 56) rfl rfl rfl ?_
      refine g_iconst (pc' := 57) (v := -1) rfl rfl (by decide) ?_
      refine g_icmp_eq (pc' := 60) (t := 66) rfl rfl rfl (fun c_57 => absurd c_57 (nI_ne1 (by omega))) (fun c_57 => ?_)
      refine g_iload (pc' := 62) rfl rfl rfl ?_
      refine g_iconst (pc' := 63) (v := -1) rfl rfl (by decide) ?_
      refine g_icmp_ne (pc' := 66) (t := 67) rfl rfl rfl (fun c_63 => ?_) (fun c_63 => absurd c_63 (nI_ne1 (by omega)))
      refine g_aload_n (pc' := 68) rfl rfl rfl ?_
      refine g_getr (pc' := 71) rfl rfl (f_9_0) ?_
      refine g_iload_n (pc' := 72) rfl rfl rfl ?_
      refine g_iload (pc' := 74) rfl rfl rfl ?_
      refine g_iload (pc' := 76) rfl rfl rfl ?_
      refine g_calli (pc' := 79) rfl rfl rfl rfl (Or.inr (rc_S isS_11)) ?_
      refine c_whyNot (kd := 0) (a := a) (b := b) isS_11 (by decide) ha (fun _ => hbb) ?_
      refine g_topi (fun w hw => ?_)
      refine g_istore (pc' := 81) rfl rfl rfl ?_
      refine g_iload (pc' := 83) rfl rfl rfl ?_
      refine g_if_eq (pc' := 86) (t := 101) rfl rfl rfl (fun c_83 => ?_) (fun c_83 => ?_)
      · refine g_aload_n (pc' := 102) rfl rfl rfl ?_
        refine g_aload_n (pc' := 103) rfl rfl rfl ?_
        refine g_getr (pc' := 106) rfl rfl (f_9_0) ?_
        refine g_iload_n (pc' := 107) rfl rfl rfl ?_
        refine g_iload (pc' := 109) rfl rfl rfl ?_
        refine g_iload (pc' := 111) rfl rfl rfl ?_
        refine g_calli (pc' := 114) rfl rfl rfl rfl (Or.inr (rc_S isS_11)) ?_
        refine c_perform (kd := 0) (a := a) (b := b) isS_11 (by decide) ha (fun _ => hbb) (fun m1 f1 e1 => ?_)
        refine g_callv (pc' := 117) rfl rfl rfl rfl (Or.inr rfl) ?_
        refine c_noteBreak (T := upT (s, ac, bad, wh, br, fa, fn) (actS s 0 a b).1) ⟨e1.trans (by rw [h1]; rfl), by rw [f1.i (by omega)]; exact h2, by rw [f1.i (by omega)]; exact h3, by rw [f1.i (by omega)]; exact h4, by rw [f1.i (by omega)]; exact h5, by rw [f1.i (by omega)]; exact h6, by rw [f1.i (by omega)]; exact h7⟩ hb (fun m2 f2 t2 => ?_)
        rw [h1] at t2
        refine g_aload_n (pc' := 118) rfl rfl rfl ?_
        refine g_dup (pc' := 119) rfl rfl rfl ?_
        refine g_geti (pc' := 122) rfl rfl (i_9_1) ?_
        refine g_iconst (pc' := 123) (v := 1) rfl rfl (by decide) ?_
        refine g_iadd (pc' := 124) rfl rfl ?_
        refine g_puti (pc' := 127) rfl rfl (i_9_1) ?_
        exact g_return rfl rfl (h _ (((f1.wide (by decide) (by decide)).tr (f2.wide (by decide) (by decide))).s (by omega) (by omega)) (by
            have hw0 : whyS s 0 a b = 0 := by rw [← h1, ← hw]; exact c_83
            have e0 : tell1 (s, ac, bad, wh, br, fa, fn) (0, a, b) = incT (noteT (upT (s, ac, bad, wh, br, fa, fn) (actS s 0 a b).1) (actS s 0 a b).2) := by unfold tell1; rw [if_pos hw0]
            rw [e0]
            exact tl_inc t2))
      · refine g_aload_n (pc' := 87) rfl rfl rfl ?_
        refine g_aload_n (pc' := 88) rfl rfl rfl ?_
        refine g_geti (pc' := 91) rfl rfl (i_9_1) ?_
        refine g_vi (y := nI ac) (h2) ?_
        refine g_puti (pc' := 94) rfl rfl (i_9_2) ?_
        refine g_aload_n (pc' := 95) rfl rfl rfl ?_
        refine g_iload (pc' := 97) rfl rfl rfl ?_
        refine g_puti (pc' := 100) rfl rfl (i_9_3) ?_
        exact g_return rfl rfl (h _ ((Fr.rf.s (by omega) (by omega)).s (by omega) (by omega)) (by
            have hw0 : ¬ whyS s 0 a b = 0 := by rw [← h1, ← hw]; exact c_83
            have e0 : tell1 (s, ac, bad, wh, br, fa, fn) (0, a, b) = (s, ac, nI ac, whyS s 0 a b, br, fa, fn) := by unfold tell1; rw [if_neg hw0]
            rw [e0, ← h1, ← hw]
            refine ⟨(st_wx (Or.inl (by decide))).trans (st_wx (Or.inl (by decide))), ?_, ?_, ?_, ?_, ?_, ?_⟩ <;> (simp only [am_wi_s, upd]; first | rfl | assumption)))
    · exact absurd (isL_of hbb) (by rw [← eb, z]; decide)
  · exact absurd (isL_of ha) (by rw [← ea, z]; decide)
theorem c_tellAct1 {K : aMem → Prop} {T : aTl} {n q a : Nat} (hn : m.1 8 1 = nI n) (h60 : n ≤ 60) (hq : q < 100) (hT : TR m T) (hb : T.2.2.2.2.1 < 1000) (hkd : kindAt (sg n (m.1 9)) q = 1) (ha : a < 10) (ea : (sg n (m.1 9)) q = nI (65 + a)) (h : ∀ m', Fr 10 17 m m' → TR m' (tell1 T (1, a, 0)) → K m') : gCv X 73 [.ref 10, .ref 8, .int (nI q)] m K := by
  refine g_inV rfl ?_
  obtain ⟨s, ac, bad, wh, br, fa, fn⟩ := T
  have hT0 := hT
  obtain ⟨h1, h2, h3, h4, h5, h6, h7⟩ := hT
  dsimp only at h1 h2 h3 h4 h5 h6 h7 hb
  refine g_aload_n (pc' := 1) rfl rfl rfl ?_
  refine g_iload_n (pc' := 2) rfl rfl rfl ?_
  refine g_calli (pc' := 5) rfl rfl rfl rfl (Or.inr rfl) ?_
  refine c_kindOfActAt hn h60 hq ?_
  rw [hkd]
  refine g_istore_n (pc' := 6) rfl rfl rfl ?_
  refine g_iload_n (pc' := 7) rfl rfl rfl ?_
  refine g_iconst (pc' := 8) (v := 3) rfl rfl (by decide) ?_
  refine g_icmp_ne (pc' := 11) (t := 15) rfl rfl rfl (fun _ => ?_) (fun c => absurd c (by decide))
  refine g_aload_n (pc' := 16) rfl rfl rfl ?_
  refine g_iload_n (pc' := 17) rfl rfl rfl ?_
  refine g_calli (pc' := 20) rfl rfl rfl rfl (Or.inr rfl) ?_
  refine c_nutAt hn h60 (by omega) (fun a2 ha2 e2 => ?_) (fun z => ?_)
  · obtain rfl : a = a2 := by have := congrArg letN (ea.symm.trans e2); rw [letN_k ha2, letN_k ha] at this; exact this
    refine g_istore (pc' := 22) rfl rfl rfl ?_
    refine g_iload_n (pc' := 23) rfl rfl rfl ?_
    refine g_if_ne (pc' := 26) (t := 36) rfl rfl rfl (fun _ => ?_) (fun c => absurd c (by decide))
    refine g_iload_n (pc' := 37) rfl rfl rfl ?_
    refine g_iconst (pc' := 38) (v := 2) rfl rfl (by decide) ?_
    refine g_icmp_ne (pc' := 41) (t := 51) rfl rfl rfl (fun _ => ?_) (fun c => absurd c (by decide))
    refine g_iconst (pc' := 52) (v := 0) rfl rfl (by decide) ?_
    refine g_istore (pc' := 54) rfl rfl rfl ?_
    refine g_iload (pc' := 56) rfl rfl rfl ?_
    refine g_iconst (pc' := 57) (v := -1) rfl rfl (by decide) ?_
    refine g_icmp_eq (pc' := 60) (t := 66) rfl rfl rfl (fun c_57 => absurd c_57 (nI_ne1 (by omega))) (fun c_57 => ?_)
    refine g_iload (pc' := 62) rfl rfl rfl ?_
    refine g_iconst (pc' := 63) (v := -1) rfl rfl (by decide) ?_
    refine g_icmp_ne (pc' := 66) (t := 67) rfl rfl rfl (fun _ => ?_) (fun c => absurd c (by decide))
    refine g_aload_n (pc' := 68) rfl rfl rfl ?_
    refine g_getr (pc' := 71) rfl rfl (f_9_0) ?_
    refine g_iload_n (pc' := 72) rfl rfl rfl ?_
    refine g_iload (pc' := 74) rfl rfl rfl ?_
    refine g_iload (pc' := 76) rfl rfl rfl ?_
    refine g_calli (pc' := 79) rfl rfl rfl rfl (Or.inr (rc_S isS_11)) ?_
    refine c_whyNot (kd := 1) (a := a) (b := 0) isS_11 (by decide) ha (fun z => by cases z) ?_
    refine g_topi (fun w hw => ?_)
    refine g_istore (pc' := 81) rfl rfl rfl ?_
    refine g_iload (pc' := 83) rfl rfl rfl ?_
    refine g_if_eq (pc' := 86) (t := 101) rfl rfl rfl (fun c_83 => ?_) (fun c_83 => ?_)
    · refine g_aload_n (pc' := 102) rfl rfl rfl ?_
      refine g_aload_n (pc' := 103) rfl rfl rfl ?_
      refine g_getr (pc' := 106) rfl rfl (f_9_0) ?_
      refine g_iload_n (pc' := 107) rfl rfl rfl ?_
      refine g_iload (pc' := 109) rfl rfl rfl ?_
      refine g_iload (pc' := 111) rfl rfl rfl ?_
      refine g_calli (pc' := 114) rfl rfl rfl rfl (Or.inr (rc_S isS_11)) ?_
      refine c_perform (kd := 1) (a := a) (b := 0) isS_11 (by decide) ha (fun z => by cases z) (fun m1 f1 e1 => ?_)
      refine g_callv (pc' := 117) rfl rfl rfl rfl (Or.inr rfl) ?_
      refine c_noteBreak (T := upT (s, ac, bad, wh, br, fa, fn) (actS s 1 a 0).1) ⟨e1.trans (by rw [h1]; rfl), by rw [f1.i (by omega)]; exact h2, by rw [f1.i (by omega)]; exact h3, by rw [f1.i (by omega)]; exact h4, by rw [f1.i (by omega)]; exact h5, by rw [f1.i (by omega)]; exact h6, by rw [f1.i (by omega)]; exact h7⟩ hb (fun m2 f2 t2 => ?_)
      rw [h1] at t2
      refine g_aload_n (pc' := 118) rfl rfl rfl ?_
      refine g_dup (pc' := 119) rfl rfl rfl ?_
      refine g_geti (pc' := 122) rfl rfl (i_9_1) ?_
      refine g_iconst (pc' := 123) (v := 1) rfl rfl (by decide) ?_
      refine g_iadd (pc' := 124) rfl rfl ?_
      refine g_puti (pc' := 127) rfl rfl (i_9_1) ?_
      exact g_return rfl rfl (h _ (((f1.wide (by decide) (by decide)).tr (f2.wide (by decide) (by decide))).s (by omega) (by omega)) (by
          have hw0 : whyS s 1 a 0 = 0 := by rw [← h1, ← hw]; exact c_83
          have e0 : tell1 (s, ac, bad, wh, br, fa, fn) (1, a, 0) = incT (noteT (upT (s, ac, bad, wh, br, fa, fn) (actS s 1 a 0).1) (actS s 1 a 0).2) := by unfold tell1; rw [if_pos hw0]
          rw [e0]
          exact tl_inc t2))
    · refine g_aload_n (pc' := 87) rfl rfl rfl ?_
      refine g_aload_n (pc' := 88) rfl rfl rfl ?_
      refine g_geti (pc' := 91) rfl rfl (i_9_1) ?_
      refine g_vi (y := nI ac) (h2) ?_
      refine g_puti (pc' := 94) rfl rfl (i_9_2) ?_
      refine g_aload_n (pc' := 95) rfl rfl rfl ?_
      refine g_iload (pc' := 97) rfl rfl rfl ?_
      refine g_puti (pc' := 100) rfl rfl (i_9_3) ?_
      exact g_return rfl rfl (h _ ((Fr.rf.s (by omega) (by omega)).s (by omega) (by omega)) (by
          have hw0 : ¬ whyS s 1 a 0 = 0 := by rw [← h1, ← hw]; exact c_83
          have e0 : tell1 (s, ac, bad, wh, br, fa, fn) (1, a, 0) = (s, ac, nI ac, whyS s 1 a 0, br, fa, fn) := by unfold tell1; rw [if_neg hw0]
          rw [e0, ← h1, ← hw]
          refine ⟨(st_wx (Or.inl (by decide))).trans (st_wx (Or.inl (by decide))), ?_, ?_, ?_, ?_, ?_, ?_⟩ <;> (simp only [am_wi_s, upd]; first | rfl | assumption)))
  · exact absurd (isL_of ha) (by rw [← ea, z]; decide)
theorem c_tellAct2 {K : aMem → Prop} {T : aTl} {n q a b : Nat} (hn : m.1 8 1 = nI n) (h60 : n ≤ 60) (hq : q < 100) (hT : TR m T) (hb : T.2.2.2.2.1 < 1000) (hkd : kindAt (sg n (m.1 9)) q = 2) (ha : a < 10) (ea : (sg n (m.1 9)) q = nI (65 + a)) (hbb : b < 4) (eb : (sg n (m.1 9)) (q + 1) = nI (48 + b)) (h : ∀ m', Fr 10 17 m m' → TR m' (tell1 T (2, a, b)) → K m') : gCv X 73 [.ref 10, .ref 8, .int (nI q)] m K := by
  refine g_inV rfl ?_
  obtain ⟨s, ac, bad, wh, br, fa, fn⟩ := T
  have hT0 := hT
  obtain ⟨h1, h2, h3, h4, h5, h6, h7⟩ := hT
  dsimp only at h1 h2 h3 h4 h5 h6 h7 hb
  refine g_aload_n (pc' := 1) rfl rfl rfl ?_
  refine g_iload_n (pc' := 2) rfl rfl rfl ?_
  refine g_calli (pc' := 5) rfl rfl rfl rfl (Or.inr rfl) ?_
  refine c_kindOfActAt hn h60 hq ?_
  rw [hkd]
  refine g_istore_n (pc' := 6) rfl rfl rfl ?_
  refine g_iload_n (pc' := 7) rfl rfl rfl ?_
  refine g_iconst (pc' := 8) (v := 3) rfl rfl (by decide) ?_
  refine g_icmp_ne (pc' := 11) (t := 15) rfl rfl rfl (fun _ => ?_) (fun c => absurd c (by decide))
  refine g_aload_n (pc' := 16) rfl rfl rfl ?_
  refine g_iload_n (pc' := 17) rfl rfl rfl ?_
  refine g_calli (pc' := 20) rfl rfl rfl rfl (Or.inr rfl) ?_
  refine c_nutAt hn h60 (by omega) (fun a2 ha2 e2 => ?_) (fun z => ?_)
  · obtain rfl : a = a2 := by have := congrArg letN (ea.symm.trans e2); rw [letN_k ha2, letN_k ha] at this; exact this
    refine g_istore (pc' := 22) rfl rfl rfl ?_
    refine g_iload_n (pc' := 23) rfl rfl rfl ?_
    refine g_if_ne (pc' := 26) (t := 36) rfl rfl rfl (fun _ => ?_) (fun c => absurd c (by decide))
    refine g_iload_n (pc' := 37) rfl rfl rfl ?_
    refine g_iconst (pc' := 38) (v := 2) rfl rfl (by decide) ?_
    refine g_icmp_ne (pc' := 41) (t := 51) rfl rfl rfl (fun c => absurd c (by decide)) (fun _ => ?_)
    refine g_aload_n (pc' := 42) rfl rfl rfl ?_
    refine g_iload_n (pc' := 43) rfl rfl rfl ?_
    refine g_iconst (pc' := 44) (v := 1) rfl rfl (by decide) ?_
    refine g_iadd (pc' := 45) rfl rfl ?_
    refine g_vi (y := nI (q + 1)) (nI_1 q) ?_
    refine g_calli (pc' := 48) rfl rfl rfl rfl (Or.inr rfl) ?_
    refine c_childAt hn h60 (by omega) (fun b2 hb2 f2 => ?_) (fun z => ?_)
    · refine g_goto (pc' := 52) rfl rfl ?_
      obtain rfl : b = b2 := by have := congrArg dgN (eb.symm.trans f2); rw [dgN_k hb2, dgN_k hbb] at this; exact this
      refine g_istore (pc' := 54) rfl rfl rfl ?_
      refine g_iload (pc' := 56) rfl rfl rfl ?_
      refine g_iconst (pc' := 57) (v := -1) rfl rfl (by decide) ?_
      refine g_icmp_eq (pc' := 60) (t := 66) rfl rfl rfl (fun c_57 => absurd c_57 (nI_ne1 (by omega))) (fun c_57 => ?_)
      refine g_iload (pc' := 62) rfl rfl rfl ?_
      refine g_iconst (pc' := 63) (v := -1) rfl rfl (by decide) ?_
      refine g_icmp_ne (pc' := 66) (t := 67) rfl rfl rfl (fun c_63 => ?_) (fun c_63 => absurd c_63 (nI_ne1 (by omega)))
      refine g_aload_n (pc' := 68) rfl rfl rfl ?_
      refine g_getr (pc' := 71) rfl rfl (f_9_0) ?_
      refine g_iload_n (pc' := 72) rfl rfl rfl ?_
      refine g_iload (pc' := 74) rfl rfl rfl ?_
      refine g_iload (pc' := 76) rfl rfl rfl ?_
      refine g_calli (pc' := 79) rfl rfl rfl rfl (Or.inr (rc_S isS_11)) ?_
      refine c_whyNot (kd := 2) (a := a) (b := b) isS_11 (by decide) ha (fun z => by cases z) ?_
      refine g_topi (fun w hw => ?_)
      refine g_istore (pc' := 81) rfl rfl rfl ?_
      refine g_iload (pc' := 83) rfl rfl rfl ?_
      refine g_if_eq (pc' := 86) (t := 101) rfl rfl rfl (fun c_83 => ?_) (fun c_83 => ?_)
      · refine g_aload_n (pc' := 102) rfl rfl rfl ?_
        refine g_aload_n (pc' := 103) rfl rfl rfl ?_
        refine g_getr (pc' := 106) rfl rfl (f_9_0) ?_
        refine g_iload_n (pc' := 107) rfl rfl rfl ?_
        refine g_iload (pc' := 109) rfl rfl rfl ?_
        refine g_iload (pc' := 111) rfl rfl rfl ?_
        refine g_calli (pc' := 114) rfl rfl rfl rfl (Or.inr (rc_S isS_11)) ?_
        refine c_perform (kd := 2) (a := a) (b := b) isS_11 (by decide) ha (fun z => by cases z) (fun m1 f1 e1 => ?_)
        refine g_callv (pc' := 117) rfl rfl rfl rfl (Or.inr rfl) ?_
        refine c_noteBreak (T := upT (s, ac, bad, wh, br, fa, fn) (actS s 2 a b).1) ⟨e1.trans (by rw [h1]; rfl), by rw [f1.i (by omega)]; exact h2, by rw [f1.i (by omega)]; exact h3, by rw [f1.i (by omega)]; exact h4, by rw [f1.i (by omega)]; exact h5, by rw [f1.i (by omega)]; exact h6, by rw [f1.i (by omega)]; exact h7⟩ hb (fun m2 f2 t2 => ?_)
        rw [h1] at t2
        refine g_aload_n (pc' := 118) rfl rfl rfl ?_
        refine g_dup (pc' := 119) rfl rfl rfl ?_
        refine g_geti (pc' := 122) rfl rfl (i_9_1) ?_
        refine g_iconst (pc' := 123) (v := 1) rfl rfl (by decide) ?_
        refine g_iadd (pc' := 124) rfl rfl ?_
        refine g_puti (pc' := 127) rfl rfl (i_9_1) ?_
        exact g_return rfl rfl (h _ (((f1.wide (by decide) (by decide)).tr (f2.wide (by decide) (by decide))).s (by omega) (by omega)) (by
            have hw0 : whyS s 2 a b = 0 := by rw [← h1, ← hw]; exact c_83
            have e0 : tell1 (s, ac, bad, wh, br, fa, fn) (2, a, b) = incT (noteT (upT (s, ac, bad, wh, br, fa, fn) (actS s 2 a b).1) (actS s 2 a b).2) := by unfold tell1; rw [if_pos hw0]
            rw [e0]
            exact tl_inc t2))
      · refine g_aload_n (pc' := 87) rfl rfl rfl ?_
        refine g_aload_n (pc' := 88) rfl rfl rfl ?_
        refine g_geti (pc' := 91) rfl rfl (i_9_1) ?_
        refine g_vi (y := nI ac) (h2) ?_
        refine g_puti (pc' := 94) rfl rfl (i_9_2) ?_
        refine g_aload_n (pc' := 95) rfl rfl rfl ?_
        refine g_iload (pc' := 97) rfl rfl rfl ?_
        refine g_puti (pc' := 100) rfl rfl (i_9_3) ?_
        exact g_return rfl rfl (h _ ((Fr.rf.s (by omega) (by omega)).s (by omega) (by omega)) (by
            have hw0 : ¬ whyS s 2 a b = 0 := by rw [← h1, ← hw]; exact c_83
            have e0 : tell1 (s, ac, bad, wh, br, fa, fn) (2, a, b) = (s, ac, nI ac, whyS s 2 a b, br, fa, fn) := by unfold tell1; rw [if_neg hw0]
            rw [e0, ← h1, ← hw]
            refine ⟨(st_wx (Or.inl (by decide))).trans (st_wx (Or.inl (by decide))), ?_, ?_, ?_, ?_, ?_, ?_⟩ <;> (simp only [am_wi_s, upd]; first | rfl | assumption)))
    · exact absurd (isDg_of hbb) (by rw [← eb, z]; decide)
  · exact absurd (isL_of ha) (by rw [← ea, z]; decide)
theorem c_tellAct {K : aMem → Prop} {T : aTl} {n q : Nat} (hn : m.1 8 1 = nI n) (h60 : n ≤ 60) (hq : q < 100) (hT : TR m T) (hb : T.2.2.2.2.1 < 1000) (hf : faultAt (sg n (m.1 9)) q = -6) (h : ∀ m', Fr 10 17 m m' → TR m' (tell1 T (actAt (sg n (m.1 9)) q)) → K m') : gCv X 73 [.ref 10, .ref 8, .int (nI q)] m K := by
  rcases act_ok hf hq with ⟨hk, -⟩ | ⟨h46, ⟨a, ha, ea⟩, ⟨hk, b, hbb, eb⟩ | hk | ⟨hk, b, hbb, eb⟩⟩
  · refine c_tellAct3 hn h60 hq hT hb hk (fun m' f t => h m' f ?_)
    unfold actAt
    rw [hk]
    exact t
  · refine c_tellAct0 hn h60 hq hT hb hk ha ea hbb eb (fun m' f t => h m' f ?_)
    unfold actAt
    rw [hk, ea, eb, if_neg (by decide), if_pos rfl, letN_k ha, letN_k hbb]
    exact t
  · refine c_tellAct1 hn h60 hq hT hb hk ha ea (fun m' f t => h m' f ?_)
    unfold actAt
    rw [hk, ea, if_neg (by decide), if_neg (by decide), if_neg (by decide), letN_k ha]
    exact t
  · refine c_tellAct2 hn h60 hq hT hb hk ha ea hbb eb (fun m' f t => h m' f ?_)
    unfold actAt
    rw [hk, ea, eb, if_neg (by decide), if_neg (by decide), if_pos rfl, letN_k ha, dgN_k hbb]
    exact t
end C6
