/-! THE MODEL: what it keeps of the object, and its answers about the days -/
def sgM (m : aMem) : aSg := (m.1 53 8, cut 8 (m.1 59), cut 8 (m.1 60))
def stK (m : aMem) (k : Nat) : aStr := (cut 10 (fun i => m.1 71 (70 * k + 2 + i)), cut 10 (fun i => m.1 71 (70 * k + 12 + i)), cut 10 (fun i => m.1 71 (70 * k + 22 + i)), cut 10 (fun i => m.1 71 (70 * k + 32 + i)), cut 10 (fun i => m.1 71 (70 * k + 42 + i)), m.1 71 (70 * k))
def sgK (m : aMem) (k : Nat) : aSg := (m.1 71 (70 * k + 1), cut 8 (fun i => m.1 71 (70 * k + 52 + i)), cut 8 (fun i => m.1 71 (70 * k + 60 + i)))
def imM (m : aMem) (k : Nat) (i : aIm) : Prop := match i with
  | none => m.1 72 k = 0
  | some q => m.1 72 k = 1 ∧ stK m k = q.1 ∧ sgK m k = q.2
def MI (m : aMem) (A : aA) : Prop := stAt m 53 = aS A ∧ m.1 53 10 = nI (aN A) ∧ sg (aN A) (m.1 61) = aG A ∧ sgM m = aT A ∧ imM m 0 (aI0 A) ∧ imM m 1 (aI1 A)
def KP (m m' : aMem) : Prop := (∀ q, (q < 53 ∨ (59 ≤ q ∧ q ≤ 61) ∨ 65 < q) → m'.1 q = m.1 q) ∧ (∀ q, (q < 53 ∨ 73 ≤ q) → m'.2 q = m.2 q) ∧ ∀ i, i ≠ 5 → (i < 14 ∨ 34 < i) → m'.1 53 i = m.1 53 i
section M6
variable {X : aX} {m : aMem} {A : aA} {K : Int32 → aMem → Prop}
theorem KP.rf : KP m m := ⟨fun _ _ => rfl, fun _ _ => rfl, fun _ _ _ => rfl⟩
theorem KP.tr {m1 m2 : aMem} (h : KP m m1) (h' : KP m1 m2) : KP m m2 := ⟨fun q a => (h'.1 q a).trans (h.1 q a), fun q a => (h'.2.1 q a).trans (h.2.1 q a), fun i a b => (h'.2.2 i a b).trans (h.2.2 i a b)⟩
theorem KP.fr {m' : aMem} (h : KP m m') : Fr 53 73 m m' := ⟨fun q hq => h.1 q (by omega), fun q hq => h.2.1 q (by omega)⟩
theorem KP.of_fr {m' : aMem} (h : Fr 53 59 m m') (h5 : ∀ i, i ≠ 5 → (i < 14 ∨ 34 < i) → m'.1 53 i = m.1 53 i) : KP m m' := ⟨fun q hq => h.1 q (by omega), fun q hq => h.2 q (by omega), h5⟩
theorem KP.of_hd {m' : aMem} (h : Fr 65 66 m m') : KP m m' := ⟨fun q hq => h.1 q (by omega), fun q hq => h.2 q (by omega), fun i _ _ => congrFun (h.1 53 (by omega)) i⟩
theorem KP.of_ff {m' : aMem} (h : FF m m') : KP m m' := ⟨fun q hq => h.1 q (by omega) (by omega) (by omega) (by omega), fun q _ => congrFun h.2.1 q, fun i _ hi => h.2.2 i (by omega)⟩
theorem KP.of_gs {m' : aMem} (h : GS m m') : KP m m' := KP.of_fr h.1 (fun i a b => h.2 i a (by omega))
theorem KP.mi {m' : aMem} {s : aStr} (h : KP m m') (hM : MI m A) (hs : stAt m' 53 = s) : MI m' (setA A s) := by
  obtain ⟨h1, h2, h3, h4, h5, h6⟩ := hM
  have e71 : m'.1 71 = m.1 71 := h.1 71 (by omega)
  have e72 : m'.1 72 = m.1 72 := h.1 72 (by omega)
  have im : ∀ k i, imM m k i → imM m' k i := fun k i hi => by
    cases i with
    | none => exact (congrFun e72 k).trans hi
    | some q =>
      refine ⟨(congrFun e72 k).trans hi.1, ?_, ?_⟩
      · rw [← hi.2.1]; unfold stK; rw [e71]
      · rw [← hi.2.2]; unfold sgK; rw [e71]
  refine ⟨hs, (h.2.2 10 (by decide) (by decide)).trans h2, ?_, ?_, im 0 _ h5, im 1 _ h6⟩
  · show sg (aN A) (m'.1 61) = aG A
    rw [h.1 61 (by omega)]; exact h3
  · show sgM m' = aT A
    rw [← h4]; unfold sgM
    rw [h.2.2 8 (by decide) (by decide), h.1 59 (by omega), h.1 60 (by omega)]
theorem setA_s : setA A (aS A) = A := rfl
theorem KP.mi0 {m' : aMem} (h : KP m m') (hM : MI m A) (hs : stAt m' 53 = aS A) : MI m' A := h.mi hM hs
theorem mf {r : Int32 × aA} {v : Int32} {A' : aA} (h : ∀ m', Fr 53 73 m m' → MI m' r.2 → K r.1 m') (e : r = (v, A')) {m' : aMem} (f : Fr 53 73 m m') (c : MI m' A') : K v m' := by
  rw [e] at h; exact h m' f c
theorem scan_v {g : Nat → Int32} {n : Nat} : ∀ k i r, i + k = n → (scanP g n k i r).1 = -6 ∨ ∃ p, p ≤ n ∧ (scanP g n k i r).1 = nI p := by
  intro k
  induction k with
  | zero =>
    intro i r h
    rw [scanP]
    dsimp only
    split
    · exact Or.inl rfl
    · exact Or.inr ⟨n, Nat.le_refl _, rfl⟩
  | succ k ih =>
    intro i r h
    rw [scanP]
    cases rdS r (g i) with
    | none => exact Or.inr ⟨i, by omega, rfl⟩
    | some r' => exact ih (i + 1) r' (by omega)
theorem d_fault2 {n : Nat} (hn : m.1 53 10 = nI n) (h60 : n ≤ 60) (h0 : ∀ m' p, FF m m' → parseA (sg n (m.1 61)) n 60 0 = none → p ≤ n → findF (sg n (m.1 61)) n 60 0 = nI p → K (nI p) m') (h1 : ∀ m' l, FF m m' → parseA (sg n (m.1 61)) n 60 0 = some l → findF (sg n (m.1 61)) n 60 0 = -6 → AL m' l → K (-6) m') : gCi X 120 [.ref 53] m K := by
  refine d_fault hn h60 (fun m' f hA => ?_)
  obtain ⟨e1, e2⟩ := scan_all (f := m.1 61) h60
  rcases scan_v (g := m.1 61) (n := n) n 0 (0, 0, []) (by omega) with e | ⟨p, hp, e⟩
  · rw [e]
    cases hl : parseA (sg n (m.1 61)) n 60 0 with
    | none => exact absurd (e1.symm.trans e) ((parse_none _ _).mp hl)
    | some l => exact h1 m' l f hl (e1.symm.trans e) (by rw [← e2 l hl]; exact hA e)
  · rw [e]
    refine h0 m' p f ?_ hp (e1.symm.trans e)
    exact (parse_none _ _).mpr (by rw [← e1, e]; exact nI_ne6 (by omega))
theorem d_faultA (hM : MI m A) (h60 : aN A ≤ 60) (h : ∀ m', Fr 53 73 m m' → MI m' (r_fault A).2 → K (r_fault A).1 m') : gCi X 120 [.ref 53] m K := by
  have eg := hM.2.2.1
  refine d_fault2 hM.2.1 h60 (fun m' p f _ hp e => ?_) (fun m' l f _ e _ => ?_)
  all_goals
    rw [eg] at e
    refine mf h (show r_fault A = (_, A) by unfold r_fault; rw [e]) (KP.of_ff f).fr ((KP.of_ff f).mi0 hM ?_)
    rw [← hM.1]
    unfold stAt
    rw [f.2.2 5 (by decide), f.1 (53 + 1) (by decide) (by decide) (by decide) (by decide), f.1 (53 + 2) (by decide) (by decide) (by decide) (by decide), f.1 (53 + 3) (by decide) (by decide) (by decide) (by decide), f.1 (53 + 4) (by decide) (by decide) (by decide) (by decide), f.1 (53 + 5) (by decide) (by decide) (by decide) (by decide)]
theorem ff_st {m' : aMem} (f : FF m m') : stAt m' 53 = stAt m 53 := by
  unfold stAt
  rw [f.2.2 5 (by decide), f.1 (53 + 1) (by decide) (by decide) (by decide) (by decide), f.1 (53 + 2) (by decide) (by decide) (by decide) (by decide), f.1 (53 + 3) (by decide) (by decide) (by decide) (by decide), f.1 (53 + 4) (by decide) (by decide) (by decide) (by decide), f.1 (53 + 5) (by decide) (by decide) (by decide) (by decide)]
theorem hd_eq {m' : aMem} (e : m'.1 65 = m.1 65) : hdAt m' = hdAt m := by unfold hdAt; rw [e]
theorem d_refusal {Mx : Nat} (hM : MI m A) (h60 : aN A ≤ 60) (hW : WFs Mx (aS A)) (h0 : dayA A = none → ∀ m', KP m m' → stAt m' 53 = aS A → hdAt m' = aS A → K (-5) m') (h1 : ∀ T m', dayA A = some T → badT T = -6 → KP m m' → MR m' T → hdAt m' = aS A → m'.1 53 14 = nI T.2.1 → WFs Mx T.1 → K (-6) m') (h2 : ∀ T m', dayA A = some T → ¬ badT T = -6 → KP m m' → MR m' T → hdAt m' = aS A → K (-3) m') : gCi X 132 [.ref 53] m K := by
  refine g_inI rfl ?_
  refine g_aload_n (pc' := 1) rfl rfl rfl ?_
  refine g_callv (pc' := 4) rfl rfl rfl rfl (Or.inr rfl) ?_
  refine d_keepNow (fun m1 f1 k1 => ?_)
  have kp1 := KP.of_hd f1
  have hM1 : MI m1 A := kp1.mi0 hM ((f1.st (p := 53) (by omega)).trans hM.1)
  have eg := hM1.2.2.1
  have k1 := k1.trans hM.1
  refine g_aload_n (pc' := 5) rfl rfl rfl ?_
  refine g_calli (pc' := 8) rfl rfl rfl rfl (Or.inr rfl) ?_
  refine d_fault2 hM1.2.1 h60 (fun m2 p f2 hp hpn hf => ?_) (fun m2 l f2 hp hf a2 => ?_)
  · refine g_if_lt (pc' := 11) (t := 14) rfl rfl rfl (fun c_8 => absurd c_8 (nI_pos (by omega))) (fun c_8 => ?_)
    refine g_bipush (pc' := 13) (v := -5) rfl rfl (by decide) ?_
    exact g_ireturn rfl rfl (h0 (by rw [eg] at hp; unfold dayA; rw [hp]; rfl) m2 (kp1.tr (KP.of_ff f2)) ((ff_st f2).trans hM1.1) ((hd_eq (f2.1 65 (by decide) (by decide) (by decide) (by decide))).trans k1))
  · refine g_if_lt (pc' := 11) (t := 14) rfl rfl rfl (fun _ => ?_) (fun c => absurd c (by decide))
    rw [eg] at hp
    have s2 := (ff_st f2).trans hM1.1
    have hdy : dayA A = some (tellL (T0 (aS A)) l) := by unfold dayA; rw [hp]; rfl
    obtain ⟨hl, hok⟩ := parse_ok h60 _ _ _ hp
    refine g_aload_n (pc' := 15) rfl rfl rfl ?_
    refine g_callv (pc' := 18) rfl rfl rfl rfl (Or.inr rfl) ?_
    refine d_goDays a2 hl hok (by rw [s2]; exact hW) (fun m3 g3 r3 i3 => ?_)
    rw [s2] at r3 i3
    have kp3 := kp1.tr ((KP.of_ff f2).tr (KP.of_gs g3))
    have k3 : hdAt m3 = aS A := (hd_eq ((g3.1.i (q := 65) (by omega)).trans (f2.1 65 (by decide) (by decide) (by decide) (by decide)))).trans k1
    refine g_aload_n (pc' := 19) rfl rfl rfl ?_
    refine g_geti (pc' := 22) rfl rfl (i_11_18) ?_
    refine g_vi (y := badT (tellL (T0 (aS A)) l)) (r3.2.1) ?_
    refine g_if_lt (pc' := 25) (t := 30) rfl rfl rfl (fun c_22 => ?_) (fun c_22 => ?_)
    · refine g_bipush (pc' := 32) (v := -6) rfl rfl (by decide) ?_
      exact g_ireturn rfl rfl (h1 _ m3 hdy (i3.1.resolve_right (fun ⟨k, hk, e⟩ => by rw [e] at c_22; exact nI_pos (by omega) c_22)) kp3 r3 k3 (((g3.al a2).1).trans (by rw [(i3.2.1 (i3.1.resolve_right (fun ⟨k, hk, e⟩ => by rw [e] at c_22; exact nI_pos (by omega) c_22))).1])) i3.2.2.2.2.2)
    · refine g_bipush (pc' := 27) (v := -3) rfl rfl (by decide) ?_
      refine g_goto (pc' := 32) rfl rfl ?_
      exact g_ireturn rfl rfl (h2 _ m3 hdy (fun z => by rw [z] at c_22; exact c_22 (by decide)) kp3 r3 k3)
theorem d_backA {m0 : aMem} {v : Int32} (hk : KP m0 m) (hd : hdAt m = aS A) (hM : MI m0 A) (h : ∀ m', Fr 53 73 m0 m' → MI m' A → (∀ i, i ≠ 5 → m'.1 53 i = m.1 53 i) → K v m') : gCi X 129 [.ref 53, .int v] m K := by
  refine d_back (fun m' f s e => ?_)
  have k2 := hk.tr (KP.of_fr f (fun i a _ => e i a))
  exact h m' k2.fr (k2.mi0 hM (s.trans hd)) e
theorem rd0 {v : aTl → Int32} (h : dayA A = none) : r_day A v = -5 := by unfold r_day; rw [h]
theorem rd1 {v : aTl → Int32} {T : aTl} (h : dayA A = some T) (hB : badT T = -6) : r_day A v = v T := by unfold r_day; rw [h]; exact if_pos hB
theorem rd2 {v : aTl → Int32} {T : aTl} (h : dayA A = some T) (hB : ¬ badT T = -6) : r_day A v = -3 := by unfold r_day; rw [h]; exact if_neg hB
theorem best_i {Mx : Nat} {s : aStr} (hW : WFs Mx s) (hM : Mx < 2 ^ 31) : ∀ i, i ≤ 10 → (fN (bestStep s) i (0, -6)).2 = fN (bestMs s) i (-6) ∧ ((fN (bestMs s) i (-6) = -6 ∧ (fN (bestStep s) i (0, -6)).1 = 0) ∨ ∃ k, k < 10 ∧ fN (bestMs s) i (-6) = nI k ∧ (fN (bestStep s) i (0, -6)).1 = sS s k) := by
  intro i
  induction i with
  | zero => intro _; exact ⟨rfl, Or.inl ⟨rfl, rfl⟩⟩
  | succ i ih =>
    intro hi
    obtain ⟨h1, h2⟩ := ih (by omega)
    rw [fN, fN]
    generalize fN (bestStep s) i (0, -6) = p at h1 h2 ⊢
    generalize fN (bestMs s) i (-6) = b at h1 h2 ⊢
    by_cases hb : sC s i = 3
    · have sA : bestStep s i p = p := by unfold bestStep; rw [if_neg (fun z => z.1 hb)]
      have sB : bestMs s i b = b := by unfold bestMs; rw [if_pos hb]
      rw [sA, sB]
      exact ⟨h1, h2⟩
    · obtain ⟨v, v1, v2, ev⟩ := hW.score (by omega) hb
      rcases h2 with ⟨e1, e2⟩ | ⟨k, hk, e1, e2⟩
      · have sA : bestStep s i p = (sS s i, nI i) := by unfold bestStep; rw [if_pos ⟨hb, by rw [e2, ev]; exact nI_ge (a := 0) (by omega) (by omega)⟩]
        have sB : bestMs s i b = nI i := by unfold bestMs; rw [if_neg hb, if_pos (by rw [e1]; decide)]
        rw [sA, sB]
        exact ⟨rfl, Or.inr ⟨i, by omega, rfl, rfl⟩⟩
      · have hx : ix b = k := by rw [e1]; exact ix_nI (by omega)
        have hn : ¬ b < 0 := by rw [e1]; exact nI_pos (by omega)
        by_cases hs : sS s i ≤ sS s k
        · have sA : bestStep s i p = p := by unfold bestStep; rw [if_neg (fun z => z.2 (by rw [e2]; exact hs))]
          have sB : bestMs s i b = b := by unfold bestMs; rw [if_neg hb, if_neg hn, hx, if_pos hs]
          rw [sA, sB]
          exact ⟨h1, Or.inr ⟨k, hk, e1, e2⟩⟩
        · have sA : bestStep s i p = (sS s i, nI i) := by unfold bestStep; rw [if_pos ⟨hb, by rw [e2]; exact hs⟩]
          have sB : bestMs s i b = nI i := by unfold bestMs; rw [if_neg hb, if_neg hn, hx, if_neg hs]
          rw [sA, sB]
          exact ⟨rfl, Or.inr ⟨i, by omega, rfl, rfl⟩⟩
theorem best_eq {Mx : Nat} {s : aStr} (hW : WFs Mx s) (hM : Mx < 2 ^ 31) : bestM s = (bestB s).2 := (best_i hW hM 10 (Nat.le_refl _)).1.symm
theorem d_judge0 (hM : MI m A) (h60 : aN A ≤ 60) {Mx : Nat} (hW : WFs Mx (aS A)) (h : ∀ m', Fr 53 73 m m' → MI m' (r_judge A 0).2 → K (r_judge A 0).1 m') : gCi X 133 [.ref 53, .int 0] m K := by
  refine g_inI rfl ?_
  refine g_iload_n (pc' := 1) rfl rfl rfl ?_
  refine g_i2l (pc' := 2) rfl rfl ?_
  refine g_lconst (pc' := 3) (v := 0) rfl rfl (by decide) ?_
  refine g_ldc2_w (pc' := 6) (v := 2) rfl rfl (by decide) ?_
  refine g_calli (pc' := 9) rfl rfl rfl rfl (Or.inl rfl) ?_
  refine d_in (lo := 0) (hi := 2) (by decide) (by decide) (fun u1 u2 => ?_) (fun u0 => ?_)
  · refine g_if_ne (pc' := 12) (t := 15) rfl rfl rfl (fun _ => ?_) (fun c => absurd c (by decide))
    refine g_aload_n (pc' := 16) rfl rfl rfl ?_
    refine g_aload_n (pc' := 17) rfl rfl rfl ?_
    refine g_calli (pc' := 20) rfl rfl rfl rfl (Or.inr rfl) ?_
    refine d_refusal hM h60 hW (fun hd m1 k1 s1 d1 => ?_) (fun Tt m1 hd hB k1 r1 d1 a1 w1 => ?_) (fun Tt m1 hd hB k1 r1 d1 => ?_)
    · refine g_calli (pc' := 23) rfl rfl rfl rfl (Or.inr rfl) ?_
      refine d_backA k1 d1 hM (fun m2 f2 i2 s2 => ?_)
      refine g_istore_n (pc' := 24) rfl rfl rfl ?_
      refine g_iload_n (pc' := 25) rfl rfl rfl ?_
      refine g_bipush (pc' := 27) (v := -5) rfl rfl (by decide) ?_
      refine g_icmp_eq (pc' := 30) (t := 41) rfl rfl rfl (fun _ => ?_) (fun c => absurd c (by decide))
      refine g_iload_n (pc' := 42) rfl rfl rfl ?_
      exact g_ireturn rfl rfl (mf h (by unfold r_judge; rw [if_neg (nn ⟨by decide, by decide⟩), hd]) f2 i2)
    · refine g_calli (pc' := 23) rfl rfl rfl rfl (Or.inr rfl) ?_
      refine d_backA k1 d1 hM (fun m2 f2 i2 s2 => ?_)
      refine g_istore_n (pc' := 24) rfl rfl rfl ?_
      refine g_iload_n (pc' := 25) rfl rfl rfl ?_
      refine g_bipush (pc' := 27) (v := -5) rfl rfl (by decide) ?_
      refine g_icmp_eq (pc' := 30) (t := 41) rfl rfl rfl (fun c => absurd c (by decide)) (fun _ => ?_)
      refine g_iload_n (pc' := 31) rfl rfl rfl ?_
      refine g_iconst (pc' := 32) (v := 1) rfl rfl (by decide) ?_
      refine g_icmp_le (pc' := 35) (t := 43) rfl rfl rfl (fun _ => ?_) (fun c => absurd c (by decide))
      refine g_iload_n (pc' := 44) rfl rfl rfl ?_
      refine g_if_ne (pc' := 47) (t := 54) rfl rfl rfl (fun c => absurd c (by decide)) (fun _ => ?_)
      refine g_aload_n (pc' := 48) rfl rfl rfl ?_
      refine g_geti (pc' := 51) rfl rfl (i_11_18) ?_
      refine g_vi (y := badT Tt) ((s2 18 (by decide)).trans r1.2.1) ?_
      refine g_goto (pc' := 70) rfl rfl ?_
      exact g_ireturn rfl rfl (mf h (by unfold r_judge; rw [if_neg (nn ⟨by decide, by decide⟩), hd]; dsimp only; rw [if_neg (fun z => absurd z.1 (by decide)), if_pos rfl]) f2 i2)
    · refine g_calli (pc' := 23) rfl rfl rfl rfl (Or.inr rfl) ?_
      refine d_backA k1 d1 hM (fun m2 f2 i2 s2 => ?_)
      refine g_istore_n (pc' := 24) rfl rfl rfl ?_
      refine g_iload_n (pc' := 25) rfl rfl rfl ?_
      refine g_bipush (pc' := 27) (v := -5) rfl rfl (by decide) ?_
      refine g_icmp_eq (pc' := 30) (t := 41) rfl rfl rfl (fun c => absurd c (by decide)) (fun _ => ?_)
      refine g_iload_n (pc' := 31) rfl rfl rfl ?_
      refine g_iconst (pc' := 32) (v := 1) rfl rfl (by decide) ?_
      refine g_icmp_le (pc' := 35) (t := 43) rfl rfl rfl (fun _ => ?_) (fun c => absurd c (by decide))
      refine g_iload_n (pc' := 44) rfl rfl rfl ?_
      refine g_if_ne (pc' := 47) (t := 54) rfl rfl rfl (fun c => absurd c (by decide)) (fun _ => ?_)
      refine g_aload_n (pc' := 48) rfl rfl rfl ?_
      refine g_geti (pc' := 51) rfl rfl (i_11_18) ?_
      refine g_vi (y := badT Tt) ((s2 18 (by decide)).trans r1.2.1) ?_
      refine g_goto (pc' := 70) rfl rfl ?_
      exact g_ireturn rfl rfl (mf h (by unfold r_judge; rw [if_neg (nn ⟨by decide, by decide⟩), hd]; dsimp only; rw [if_neg (fun z => absurd z.1 (by decide)), if_pos rfl]) f2 i2)
  · exact absurd ⟨by decide, by decide⟩ u0
theorem d_judge1 (hM : MI m A) (h60 : aN A ≤ 60) {Mx : Nat} (hW : WFs Mx (aS A)) (h : ∀ m', Fr 53 73 m m' → MI m' (r_judge A 1).2 → K (r_judge A 1).1 m') : gCi X 133 [.ref 53, .int 1] m K := by
  refine g_inI rfl ?_
  refine g_iload_n (pc' := 1) rfl rfl rfl ?_
  refine g_i2l (pc' := 2) rfl rfl ?_
  refine g_lconst (pc' := 3) (v := 0) rfl rfl (by decide) ?_
  refine g_ldc2_w (pc' := 6) (v := 2) rfl rfl (by decide) ?_
  refine g_calli (pc' := 9) rfl rfl rfl rfl (Or.inl rfl) ?_
  refine d_in (lo := 0) (hi := 2) (by decide) (by decide) (fun u1 u2 => ?_) (fun u0 => ?_)
  · refine g_if_ne (pc' := 12) (t := 15) rfl rfl rfl (fun _ => ?_) (fun c => absurd c (by decide))
    refine g_aload_n (pc' := 16) rfl rfl rfl ?_
    refine g_aload_n (pc' := 17) rfl rfl rfl ?_
    refine g_calli (pc' := 20) rfl rfl rfl rfl (Or.inr rfl) ?_
    refine d_refusal hM h60 hW (fun hd m1 k1 s1 d1 => ?_) (fun Tt m1 hd hB k1 r1 d1 a1 w1 => ?_) (fun Tt m1 hd hB k1 r1 d1 => ?_)
    · refine g_calli (pc' := 23) rfl rfl rfl rfl (Or.inr rfl) ?_
      refine d_backA k1 d1 hM (fun m2 f2 i2 s2 => ?_)
      refine g_istore_n (pc' := 24) rfl rfl rfl ?_
      refine g_iload_n (pc' := 25) rfl rfl rfl ?_
      refine g_bipush (pc' := 27) (v := -5) rfl rfl (by decide) ?_
      refine g_icmp_eq (pc' := 30) (t := 41) rfl rfl rfl (fun _ => ?_) (fun c => absurd c (by decide))
      refine g_iload_n (pc' := 42) rfl rfl rfl ?_
      exact g_ireturn rfl rfl (mf h (by unfold r_judge; rw [if_neg (nn ⟨by decide, by decide⟩), hd]) f2 i2)
    · refine g_calli (pc' := 23) rfl rfl rfl rfl (Or.inr rfl) ?_
      refine d_backA k1 d1 hM (fun m2 f2 i2 s2 => ?_)
      refine g_istore_n (pc' := 24) rfl rfl rfl ?_
      refine g_iload_n (pc' := 25) rfl rfl rfl ?_
      refine g_bipush (pc' := 27) (v := -5) rfl rfl (by decide) ?_
      refine g_icmp_eq (pc' := 30) (t := 41) rfl rfl rfl (fun c => absurd c (by decide)) (fun _ => ?_)
      refine g_iload_n (pc' := 31) rfl rfl rfl ?_
      refine g_iconst (pc' := 32) (v := 1) rfl rfl (by decide) ?_
      refine g_icmp_le (pc' := 35) (t := 43) rfl rfl rfl (fun _ => ?_) (fun c => absurd c (by decide))
      refine g_iload_n (pc' := 44) rfl rfl rfl ?_
      refine g_if_ne (pc' := 47) (t := 54) rfl rfl rfl (fun _ => ?_) (fun c => absurd c (by decide))
      refine g_iload_n (pc' := 55) rfl rfl rfl ?_
      refine g_iconst (pc' := 56) (v := 1) rfl rfl (by decide) ?_
      refine g_icmp_ne (pc' := 59) (t := 66) rfl rfl rfl (fun c => absurd c (by decide)) (fun _ => ?_)
      refine g_aload_n (pc' := 60) rfl rfl rfl ?_
      refine g_geti (pc' := 63) rfl rfl (i_11_19) ?_
      refine g_vi (y := Tt.2.2.2.1) ((s2 19 (by decide)).trans r1.2.2.1) ?_
      refine g_goto (pc' := 70) rfl rfl ?_
      exact g_ireturn rfl rfl (mf h (by unfold r_judge; rw [if_neg (nn ⟨by decide, by decide⟩), hd]; dsimp only; rw [if_neg (fun z => absurd z.1 (by decide)), if_neg (by decide), if_pos rfl]) f2 i2)
    · refine g_calli (pc' := 23) rfl rfl rfl rfl (Or.inr rfl) ?_
      refine d_backA k1 d1 hM (fun m2 f2 i2 s2 => ?_)
      refine g_istore_n (pc' := 24) rfl rfl rfl ?_
      refine g_iload_n (pc' := 25) rfl rfl rfl ?_
      refine g_bipush (pc' := 27) (v := -5) rfl rfl (by decide) ?_
      refine g_icmp_eq (pc' := 30) (t := 41) rfl rfl rfl (fun c => absurd c (by decide)) (fun _ => ?_)
      refine g_iload_n (pc' := 31) rfl rfl rfl ?_
      refine g_iconst (pc' := 32) (v := 1) rfl rfl (by decide) ?_
      refine g_icmp_le (pc' := 35) (t := 43) rfl rfl rfl (fun _ => ?_) (fun c => absurd c (by decide))
      refine g_iload_n (pc' := 44) rfl rfl rfl ?_
      refine g_if_ne (pc' := 47) (t := 54) rfl rfl rfl (fun _ => ?_) (fun c => absurd c (by decide))
      refine g_iload_n (pc' := 55) rfl rfl rfl ?_
      refine g_iconst (pc' := 56) (v := 1) rfl rfl (by decide) ?_
      refine g_icmp_ne (pc' := 59) (t := 66) rfl rfl rfl (fun c => absurd c (by decide)) (fun _ => ?_)
      refine g_aload_n (pc' := 60) rfl rfl rfl ?_
      refine g_geti (pc' := 63) rfl rfl (i_11_19) ?_
      refine g_vi (y := Tt.2.2.2.1) ((s2 19 (by decide)).trans r1.2.2.1) ?_
      refine g_goto (pc' := 70) rfl rfl ?_
      exact g_ireturn rfl rfl (mf h (by unfold r_judge; rw [if_neg (nn ⟨by decide, by decide⟩), hd]; dsimp only; rw [if_neg (fun z => absurd z.1 (by decide)), if_neg (by decide), if_pos rfl]) f2 i2)
  · exact absurd ⟨by decide, by decide⟩ u0
theorem d_judge2 (hM : MI m A) (h60 : aN A ≤ 60) {Mx : Nat} (hW : WFs Mx (aS A)) (h : ∀ m', Fr 53 73 m m' → MI m' (r_judge A 2).2 → K (r_judge A 2).1 m') : gCi X 133 [.ref 53, .int 2] m K := by
  refine g_inI rfl ?_
  refine g_iload_n (pc' := 1) rfl rfl rfl ?_
  refine g_i2l (pc' := 2) rfl rfl ?_
  refine g_lconst (pc' := 3) (v := 0) rfl rfl (by decide) ?_
  refine g_ldc2_w (pc' := 6) (v := 2) rfl rfl (by decide) ?_
  refine g_calli (pc' := 9) rfl rfl rfl rfl (Or.inl rfl) ?_
  refine d_in (lo := 0) (hi := 2) (by decide) (by decide) (fun u1 u2 => ?_) (fun u0 => ?_)
  · refine g_if_ne (pc' := 12) (t := 15) rfl rfl rfl (fun _ => ?_) (fun c => absurd c (by decide))
    refine g_aload_n (pc' := 16) rfl rfl rfl ?_
    refine g_aload_n (pc' := 17) rfl rfl rfl ?_
    refine g_calli (pc' := 20) rfl rfl rfl rfl (Or.inr rfl) ?_
    refine d_refusal hM h60 hW (fun hd m1 k1 s1 d1 => ?_) (fun Tt m1 hd hB k1 r1 d1 a1 w1 => ?_) (fun Tt m1 hd hB k1 r1 d1 => ?_)
    · refine g_calli (pc' := 23) rfl rfl rfl rfl (Or.inr rfl) ?_
      refine d_backA k1 d1 hM (fun m2 f2 i2 s2 => ?_)
      refine g_istore_n (pc' := 24) rfl rfl rfl ?_
      refine g_iload_n (pc' := 25) rfl rfl rfl ?_
      refine g_bipush (pc' := 27) (v := -5) rfl rfl (by decide) ?_
      refine g_icmp_eq (pc' := 30) (t := 41) rfl rfl rfl (fun _ => ?_) (fun c => absurd c (by decide))
      refine g_iload_n (pc' := 42) rfl rfl rfl ?_
      exact g_ireturn rfl rfl (mf h (by unfold r_judge; rw [if_neg (nn ⟨by decide, by decide⟩), hd]) f2 i2)
    · refine g_calli (pc' := 23) rfl rfl rfl rfl (Or.inr rfl) ?_
      refine d_backA k1 d1 hM (fun m2 f2 i2 s2 => ?_)
      refine g_istore_n (pc' := 24) rfl rfl rfl ?_
      refine g_iload_n (pc' := 25) rfl rfl rfl ?_
      refine g_bipush (pc' := 27) (v := -5) rfl rfl (by decide) ?_
      refine g_icmp_eq (pc' := 30) (t := 41) rfl rfl rfl (fun c => absurd c (by decide)) (fun _ => ?_)
      refine g_iload_n (pc' := 31) rfl rfl rfl ?_
      refine g_iconst (pc' := 32) (v := 1) rfl rfl (by decide) ?_
      refine g_icmp_le (pc' := 35) (t := 43) rfl rfl rfl (fun c => absurd c (by decide)) (fun _ => ?_)
      refine g_iload_n (pc' := 36) rfl rfl rfl ?_
      refine g_bipush (pc' := 38) (v := -3) rfl rfl (by decide) ?_
      refine g_icmp_ne (pc' := 41) (t := 43) rfl rfl rfl (fun _ => ?_) (fun c => absurd c (by decide))
      refine g_iload_n (pc' := 44) rfl rfl rfl ?_
      refine g_if_ne (pc' := 47) (t := 54) rfl rfl rfl (fun _ => ?_) (fun c => absurd c (by decide))
      refine g_iload_n (pc' := 55) rfl rfl rfl ?_
      refine g_iconst (pc' := 56) (v := 1) rfl rfl (by decide) ?_
      refine g_icmp_ne (pc' := 59) (t := 66) rfl rfl rfl (fun _ => ?_) (fun c => absurd c (by decide))
      refine g_aload_n (pc' := 67) rfl rfl rfl ?_
      refine g_geti (pc' := 70) rfl rfl (i_11_16) ?_
      refine g_vi (y := nI Tt.2.2.2.2.1) ((s2 16 (by decide)).trans r1.2.2.2.1) ?_
      exact g_ireturn rfl rfl (mf h (by unfold r_judge; rw [if_neg (nn ⟨by decide, by decide⟩), hd]; dsimp only; rw [if_neg (fun z => z.2 hB), if_neg (by decide), if_neg (by decide)]) f2 i2)
    · refine g_calli (pc' := 23) rfl rfl rfl rfl (Or.inr rfl) ?_
      refine d_backA k1 d1 hM (fun m2 f2 i2 s2 => ?_)
      refine g_istore_n (pc' := 24) rfl rfl rfl ?_
      refine g_iload_n (pc' := 25) rfl rfl rfl ?_
      refine g_bipush (pc' := 27) (v := -5) rfl rfl (by decide) ?_
      refine g_icmp_eq (pc' := 30) (t := 41) rfl rfl rfl (fun c => absurd c (by decide)) (fun _ => ?_)
      refine g_iload_n (pc' := 31) rfl rfl rfl ?_
      refine g_iconst (pc' := 32) (v := 1) rfl rfl (by decide) ?_
      refine g_icmp_le (pc' := 35) (t := 43) rfl rfl rfl (fun c => absurd c (by decide)) (fun _ => ?_)
      refine g_iload_n (pc' := 36) rfl rfl rfl ?_
      refine g_bipush (pc' := 38) (v := -3) rfl rfl (by decide) ?_
      refine g_icmp_ne (pc' := 41) (t := 43) rfl rfl rfl (fun c => absurd c (by decide)) (fun _ => ?_)
      refine g_iload_n (pc' := 42) rfl rfl rfl ?_
      exact g_ireturn rfl rfl (mf h (by unfold r_judge; rw [if_neg (nn ⟨by decide, by decide⟩), hd]; dsimp only; rw [if_pos ⟨rfl, hB⟩]) f2 i2)
  · exact absurd ⟨by decide, by decide⟩ u0
theorem d_judge {w : Int32} (hM : MI m A) (h60 : aN A ≤ 60) {Mx : Nat} (hW : WFs Mx (aS A)) (h : ∀ m', Fr 53 73 m m' → MI m' (r_judge A w).2 → K (r_judge A w).1 m') : gCi X 133 [.ref 53, .int w] m K := by
  by_cases hw : 0 ≤ w ∧ w ≤ 2
  · obtain ⟨k, hk, e⟩ := i_rng (a := 0) (b := 2) rfl rfl (by decide) (by decide) hw.1 hw.2
    rcases (show k = 0 ∨ k = 1 ∨ k = 2 by omega) with rfl | rfl | rfl <;> subst e
    · exact d_judge0 hM h60 hW h
    · exact d_judge1 hM h60 hW h
    · exact d_judge2 hM h60 hW h
  · refine g_inI rfl ?_
    refine g_iload_n (pc' := 1) rfl rfl rfl ?_
    refine g_i2l (pc' := 2) rfl rfl ?_
    refine g_lconst (pc' := 3) (v := 0) rfl rfl (by decide) ?_
    refine g_ldc2_w (pc' := 6) (v := 2) rfl rfl (by decide) ?_
    refine g_calli (pc' := 9) rfl rfl rfl rfl (Or.inl rfl) ?_
    refine d_in (lo := 0) (hi := 2) (by decide) (by decide) (fun u1 u2 => ?_) (fun u0 => ?_)
    · exact absurd ⟨u1, u2⟩ hw
    · refine g_if_ne (pc' := 12) (t := 15) rfl rfl rfl (fun c => absurd c (by decide)) (fun _ => ?_)
      refine g_bipush (pc' := 14) (v := -2) rfl rfl (by decide) ?_
      exact g_ireturn rfl rfl (mf h (by unfold r_judge; rw [if_pos hw]) Fr.rf hM)
theorem d_behind {x w : Int32} (hM : MI m A) (h60 : aN A ≤ 60) {Mx : Nat} (hW : WFs Mx (aS A)) (h : ∀ m', Fr 53 73 m m' → MI m' (r_behind A x w).2 → K (r_behind A x w).1 m') : gCi X 135 [.ref 53, .int x, .int w] m K := by
  refine g_inI rfl ?_
  refine g_iload_n (pc' := 1) rfl rfl rfl ?_
  refine g_calli (pc' := 4) rfl rfl rfl rfl (Or.inl rfl) ?_
  refine d_isNut (fun k hk ek => ?_) (fun x0 => ?_)
  · subst ek
    refine g_if_ne (pc' := 7) (t := 9) rfl rfl rfl (fun _ => ?_) (fun c => absurd c (by decide))
    refine g_iload_n (pc' := 10) rfl rfl rfl ?_
    refine g_i2l (pc' := 11) rfl rfl ?_
    refine g_lconst (pc' := 12) (v := 0) rfl rfl (by decide) ?_
    refine g_ldc2_w (pc' := 15) (v := 4) rfl rfl (by decide) ?_
    refine g_calli (pc' := 18) rfl rfl rfl rfl (Or.inl rfl) ?_
    refine d_in (lo := 0) (hi := 4) (by decide) (by decide) (fun u1 u2 => ?_) (fun u0 => ?_)
    · obtain ⟨j, hj, ej⟩ := i_rng (a := 0) (b := 4) rfl rfl (by decide) (by decide) u1 u2
      rw [Nat.zero_add] at ej
      refine g_if_ne (pc' := 21) (t := 24) rfl rfl rfl (fun _ => ?_) (fun c => absurd c (by decide))
      refine g_aload_n (pc' := 25) rfl rfl rfl ?_
      refine g_calli (pc' := 28) rfl rfl rfl rfl (Or.inr rfl) ?_
      refine d_refusal hM h60 hW (fun hd m1 k1 s1 d1 => ?_) (fun Tt m1 hd hB k1 r1 d1 a1 w1 => ?_) (fun Tt m1 hd hB k1 r1 d1 => ?_)
      · refine g_istore_n (pc' := 29) rfl rfl rfl ?_
        refine g_aload_n (pc' := 30) rfl rfl rfl ?_
        refine g_iload_n (pc' := 31) rfl rfl rfl ?_
        refine g_bipush (pc' := 33) (v := -6) rfl rfl (by decide) ?_
        refine g_icmp_eq (pc' := 36) (t := 40) rfl rfl rfl (fun c => absurd c (by decide)) (fun _ => ?_)
        refine g_iload_n (pc' := 37) rfl rfl rfl ?_
        refine g_goto (pc' := 46) rfl rfl ?_
        refine g_calli (pc' := 49) rfl rfl rfl rfl (Or.inr rfl) ?_
        refine d_backA k1 d1 hM (fun m2 f2 i2 s2 => ?_)
        exact g_ireturn rfl rfl (mf h (by unfold r_behind; rw [if_neg (nn (rn_9 hk)), if_neg (nn ⟨u1, u2⟩), rd0 hd]) f2 i2)
      · refine g_istore_n (pc' := 29) rfl rfl rfl ?_
        refine g_aload_n (pc' := 30) rfl rfl rfl ?_
        refine g_iload_n (pc' := 31) rfl rfl rfl ?_
        refine g_bipush (pc' := 33) (v := -6) rfl rfl (by decide) ?_
        refine g_icmp_eq (pc' := 36) (t := 40) rfl rfl rfl (fun _ => ?_) (fun c => absurd c (by decide))
        refine g_aload_n (pc' := 41) rfl rfl rfl ?_
        refine g_iload_n (pc' := 42) rfl rfl rfl ?_
        refine g_iload_n (pc' := 43) rfl rfl rfl ?_
        refine g_calli (pc' := 46) rfl rfl rfl rfl (Or.inr rfl) ?_
        refine (ej ▸ d_ofNut hk hj ?_)
        refine g_calli (pc' := 49) rfl rfl rfl rfl (Or.inr rfl) ?_
        refine d_backA k1 d1 hM (fun m2 f2 i2 s2 => ?_)
        exact g_ireturn rfl rfl (mf h (by unfold r_behind; rw [if_neg (nn (rn_9 hk)), if_neg (nn ⟨u1, u2⟩), rd1 hd hB, ix_nI (by omega), ej, ix_nI (by omega), r1.1]) f2 i2)
      · refine g_istore_n (pc' := 29) rfl rfl rfl ?_
        refine g_aload_n (pc' := 30) rfl rfl rfl ?_
        refine g_iload_n (pc' := 31) rfl rfl rfl ?_
        refine g_bipush (pc' := 33) (v := -6) rfl rfl (by decide) ?_
        refine g_icmp_eq (pc' := 36) (t := 40) rfl rfl rfl (fun c => absurd c (by decide)) (fun _ => ?_)
        refine g_iload_n (pc' := 37) rfl rfl rfl ?_
        refine g_goto (pc' := 46) rfl rfl ?_
        refine g_calli (pc' := 49) rfl rfl rfl rfl (Or.inr rfl) ?_
        refine d_backA k1 d1 hM (fun m2 f2 i2 s2 => ?_)
        exact g_ireturn rfl rfl (mf h (by unfold r_behind; rw [if_neg (nn (rn_9 hk)), if_neg (nn ⟨u1, u2⟩), rd2 hd hB]) f2 i2)
    · refine g_if_ne (pc' := 21) (t := 24) rfl rfl rfl (fun c => absurd c (by decide)) (fun _ => ?_)
      refine g_bipush (pc' := 23) (v := -2) rfl rfl (by decide) ?_
      exact g_ireturn rfl rfl (mf h (by unfold r_behind; rw [if_neg (nn (rn_9 hk)), if_pos u0]) Fr.rf hM)
  · refine g_if_ne (pc' := 7) (t := 9) rfl rfl rfl (fun c => absurd c (by decide)) (fun _ => ?_)
    refine g_iconst (pc' := 8) (v := -1) rfl rfl (by decide) ?_
    exact g_ireturn rfl rfl (mf h (by unfold r_behind; rw [if_pos x0]) Fr.rf hM)
theorem d_child {x w : Int32} (hM : MI m A) (h60 : aN A ≤ 60) {Mx : Nat} (hW : WFs Mx (aS A)) (h : ∀ m', Fr 53 73 m m' → MI m' (r_child A x w).2 → K (r_child A x w).1 m') : gCi X 138 [.ref 53, .int x, .int w] m K := by
  refine g_inI rfl ?_
  refine g_iload_n (pc' := 1) rfl rfl rfl ?_
  refine g_calli (pc' := 4) rfl rfl rfl rfl (Or.inl rfl) ?_
  refine d_isChild (fun k hk ek => ?_) (fun x0 => ?_)
  · subst ek
    refine g_if_ne (pc' := 7) (t := 9) rfl rfl rfl (fun _ => ?_) (fun c => absurd c (by decide))
    refine g_iload_n (pc' := 10) rfl rfl rfl ?_
    refine g_i2l (pc' := 11) rfl rfl ?_
    refine g_lconst (pc' := 12) (v := 0) rfl rfl (by decide) ?_
    refine g_lconst (pc' := 13) (v := 1) rfl rfl (by decide) ?_
    refine g_calli (pc' := 16) rfl rfl rfl rfl (Or.inl rfl) ?_
    refine d_in (lo := 0) (hi := 1) (by decide) (by decide) (fun u1 u2 => ?_) (fun u0 => ?_)
    · refine g_if_ne (pc' := 19) (t := 22) rfl rfl rfl (fun _ => ?_) (fun c => absurd c (by decide))
      refine g_aload_n (pc' := 23) rfl rfl rfl ?_
      refine g_calli (pc' := 26) rfl rfl rfl rfl (Or.inr rfl) ?_
      refine d_refusal hM h60 hW (fun hd m1 k1 s1 d1 => ?_) (fun Tt m1 hd hB k1 r1 d1 a1 w1 => ?_) (fun Tt m1 hd hB k1 r1 d1 => ?_)
      · refine g_istore_n (pc' := 27) rfl rfl rfl ?_
        refine g_aload_n (pc' := 28) rfl rfl rfl ?_
        refine g_iload_n (pc' := 29) rfl rfl rfl ?_
        refine g_bipush (pc' := 31) (v := -6) rfl rfl (by decide) ?_
        refine g_icmp_eq (pc' := 34) (t := 38) rfl rfl rfl (fun c => absurd c (by decide)) (fun _ => ?_)
        refine g_iload_n (pc' := 35) rfl rfl rfl ?_
        refine g_goto (pc' := 55) rfl rfl ?_
        refine g_calli (pc' := 58) rfl rfl rfl rfl (Or.inr rfl) ?_
        refine d_backA k1 d1 hM (fun m2 f2 i2 s2 => ?_)
        exact g_ireturn rfl rfl (mf h (by unfold r_child; rw [if_neg (nn (rn_3 hk)), if_neg (nn ⟨u1, u2⟩), rd0 hd]) f2 i2)
      · refine g_istore_n (pc' := 27) rfl rfl rfl ?_
        refine g_aload_n (pc' := 28) rfl rfl rfl ?_
        refine g_iload_n (pc' := 29) rfl rfl rfl ?_
        refine g_bipush (pc' := 31) (v := -6) rfl rfl (by decide) ?_
        refine g_icmp_eq (pc' := 34) (t := 38) rfl rfl rfl (fun _ => ?_) (fun c => absurd c (by decide))
        refine g_iload_n (pc' := 39) rfl rfl rfl ?_
        refine g_if_ne (pc' := 42) (t := 50) rfl rfl rfl (fun c_39 => ?_) (fun c_39 => ?_)
        · refine g_aload_n (pc' := 51) rfl rfl rfl ?_
          refine g_iload_n (pc' := 52) rfl rfl rfl ?_
          refine g_calli (pc' := 55) rfl rfl rfl rfl (Or.inr rfl) ?_
          refine d_nutsOf ?_
          refine g_calli (pc' := 58) rfl rfl rfl rfl (Or.inr rfl) ?_
          refine d_backA k1 d1 hM (fun m2 f2 i2 s2 => ?_)
          exact g_ireturn rfl rfl (mf h (by unfold r_child; rw [if_neg (nn (rn_3 hk)), if_neg (nn ⟨u1, u2⟩), rd1 hd hB, if_neg c_39, r1.1]) f2 i2)
        · refine g_aload_n (pc' := 43) rfl rfl rfl ?_
          refine g_iload_n (pc' := 44) rfl rfl rfl ?_
          refine g_calli (pc' := 47) rfl rfl rfl rfl (Or.inr rfl) ?_
          refine d_scoresOf ?_
          refine g_goto (pc' := 55) rfl rfl ?_
          refine g_calli (pc' := 58) rfl rfl rfl rfl (Or.inr rfl) ?_
          refine d_backA k1 d1 hM (fun m2 f2 i2 s2 => ?_)
          exact g_ireturn rfl rfl (mf h (by unfold r_child; rw [if_neg (nn (rn_3 hk)), if_neg (nn ⟨u1, u2⟩), rd1 hd hB, if_pos c_39, r1.1]) f2 i2)
      · refine g_istore_n (pc' := 27) rfl rfl rfl ?_
        refine g_aload_n (pc' := 28) rfl rfl rfl ?_
        refine g_iload_n (pc' := 29) rfl rfl rfl ?_
        refine g_bipush (pc' := 31) (v := -6) rfl rfl (by decide) ?_
        refine g_icmp_eq (pc' := 34) (t := 38) rfl rfl rfl (fun c => absurd c (by decide)) (fun _ => ?_)
        refine g_iload_n (pc' := 35) rfl rfl rfl ?_
        refine g_goto (pc' := 55) rfl rfl ?_
        refine g_calli (pc' := 58) rfl rfl rfl rfl (Or.inr rfl) ?_
        refine d_backA k1 d1 hM (fun m2 f2 i2 s2 => ?_)
        exact g_ireturn rfl rfl (mf h (by unfold r_child; rw [if_neg (nn (rn_3 hk)), if_neg (nn ⟨u1, u2⟩), rd2 hd hB]) f2 i2)
    · refine g_if_ne (pc' := 19) (t := 22) rfl rfl rfl (fun c => absurd c (by decide)) (fun _ => ?_)
      refine g_bipush (pc' := 21) (v := -2) rfl rfl (by decide) ?_
      exact g_ireturn rfl rfl (mf h (by unfold r_child; rw [if_neg (nn (rn_3 hk)), if_pos u0]) Fr.rf hM)
  · refine g_if_ne (pc' := 7) (t := 9) rfl rfl rfl (fun c => absurd c (by decide)) (fun _ => ?_)
    refine g_iconst (pc' := 8) (v := -1) rfl rfl (by decide) ?_
    exact g_ireturn rfl rfl (mf h (by unfold r_child; rw [if_pos x0]) Fr.rf hM)
theorem d_street {w : Int32} (hM : MI m A) (h60 : aN A ≤ 60) {Mx : Nat} (hW : WFs Mx (aS A)) (h : ∀ m', Fr 53 73 m m' → MI m' (r_street A w).2 → K (r_street A w).1 m') (hMx : Mx < 2 ^ 31) : gCi X 141 [.ref 53, .int w] m K := by
  refine g_inI rfl ?_
  refine g_iload_n (pc' := 1) rfl rfl rfl ?_
  refine g_i2l (pc' := 2) rfl rfl ?_
  refine g_lconst (pc' := 3) (v := 0) rfl rfl (by decide) ?_
  refine g_ldc2_w (pc' := 6) (v := 2) rfl rfl (by decide) ?_
  refine g_calli (pc' := 9) rfl rfl rfl rfl (Or.inl rfl) ?_
  refine d_in (lo := 0) (hi := 2) (by decide) (by decide) (fun u1 u2 => ?_) (fun u0 => ?_)
  · refine g_if_ne (pc' := 12) (t := 15) rfl rfl rfl (fun _ => ?_) (fun c => absurd c (by decide))
    refine g_aload_n (pc' := 16) rfl rfl rfl ?_
    refine g_calli (pc' := 19) rfl rfl rfl rfl (Or.inr rfl) ?_
    refine d_refusal hM h60 hW (fun hd m1 k1 s1 d1 => ?_) (fun Tt m1 hd hB k1 r1 d1 a1 w1 => ?_) (fun Tt m1 hd hB k1 r1 d1 => ?_)
    · refine g_istore_n (pc' := 20) rfl rfl rfl ?_
      refine g_aload_n (pc' := 21) rfl rfl rfl ?_
      refine g_iload_n (pc' := 22) rfl rfl rfl ?_
      refine g_bipush (pc' := 24) (v := -6) rfl rfl (by decide) ?_
      refine g_icmp_eq (pc' := 27) (t := 31) rfl rfl rfl (fun c => absurd c (by decide)) (fun _ => ?_)
      refine g_iload_n (pc' := 28) rfl rfl rfl ?_
      refine g_goto (pc' := 58) rfl rfl ?_
      refine g_calli (pc' := 61) rfl rfl rfl rfl (Or.inr rfl) ?_
      refine d_backA k1 d1 hM (fun m2 f2 i2 s2 => ?_)
      exact g_ireturn rfl rfl (mf h (by unfold r_street; rw [if_neg (nn ⟨u1, u2⟩), rd0 hd]) f2 i2)
    · refine g_istore_n (pc' := 20) rfl rfl rfl ?_
      refine g_aload_n (pc' := 21) rfl rfl rfl ?_
      refine g_iload_n (pc' := 22) rfl rfl rfl ?_
      refine g_bipush (pc' := 24) (v := -6) rfl rfl (by decide) ?_
      refine g_icmp_eq (pc' := 27) (t := 31) rfl rfl rfl (fun _ => ?_) (fun c => absurd c (by decide))
      refine g_iload_n (pc' := 32) rfl rfl rfl ?_
      refine g_if_ne (pc' := 35) (t := 42) rfl rfl rfl (fun c_32 => ?_) (fun c_32 => ?_)
      · refine g_iload_n (pc' := 43) rfl rfl rfl ?_
        refine g_iconst (pc' := 44) (v := 1) rfl rfl (by decide) ?_
        refine g_icmp_ne (pc' := 47) (t := 54) rfl rfl rfl (fun c_44 => ?_) (fun c_44 => ?_)
        · refine g_aload_n (pc' := 55) rfl rfl rfl ?_
          refine g_calli (pc' := 58) rfl rfl rfl rfl (Or.inr rfl) ?_
          refine d_bestNut ?_
          refine g_calli (pc' := 61) rfl rfl rfl rfl (Or.inr rfl) ?_
          refine d_backA k1 d1 hM (fun m2 f2 i2 s2 => ?_)
          exact g_ireturn rfl rfl (mf h (by unfold r_street; rw [if_neg (nn ⟨u1, u2⟩), rd1 hd hB, if_neg c_32, if_neg c_44, r1.1, best_eq w1 hMx]) f2 i2)
        · refine g_aload_n (pc' := 48) rfl rfl rfl ?_
          refine g_geti (pc' := 51) rfl rfl (i_11_5) ?_
          refine g_vi (y := sD Tt.1) (by rw [← r1.1]; rfl) ?_
          refine g_goto (pc' := 58) rfl rfl ?_
          refine g_calli (pc' := 61) rfl rfl rfl rfl (Or.inr rfl) ?_
          refine d_backA k1 d1 hM (fun m2 f2 i2 s2 => ?_)
          exact g_ireturn rfl rfl (mf h (by unfold r_street; rw [if_neg (nn ⟨u1, u2⟩), rd1 hd hB, if_neg c_32, if_pos c_44]) f2 i2)
      · refine g_aload_n (pc' := 36) rfl rfl rfl ?_
        refine g_calli (pc' := 39) rfl rfl rfl rfl (Or.inr rfl) ?_
        refine d_broken ?_
        refine g_goto (pc' := 58) rfl rfl ?_
        refine g_calli (pc' := 61) rfl rfl rfl rfl (Or.inr rfl) ?_
        refine d_backA k1 d1 hM (fun m2 f2 i2 s2 => ?_)
        exact g_ireturn rfl rfl (mf h (by unfold r_street; rw [if_neg (nn ⟨u1, u2⟩), rd1 hd hB, if_pos c_32, r1.1]) f2 i2)
    · refine g_istore_n (pc' := 20) rfl rfl rfl ?_
      refine g_aload_n (pc' := 21) rfl rfl rfl ?_
      refine g_iload_n (pc' := 22) rfl rfl rfl ?_
      refine g_bipush (pc' := 24) (v := -6) rfl rfl (by decide) ?_
      refine g_icmp_eq (pc' := 27) (t := 31) rfl rfl rfl (fun c => absurd c (by decide)) (fun _ => ?_)
      refine g_iload_n (pc' := 28) rfl rfl rfl ?_
      refine g_goto (pc' := 58) rfl rfl ?_
      refine g_calli (pc' := 61) rfl rfl rfl rfl (Or.inr rfl) ?_
      refine d_backA k1 d1 hM (fun m2 f2 i2 s2 => ?_)
      exact g_ireturn rfl rfl (mf h (by unfold r_street; rw [if_neg (nn ⟨u1, u2⟩), rd2 hd hB]) f2 i2)
  · refine g_if_ne (pc' := 12) (t := 15) rfl rfl rfl (fun c => absurd c (by decide)) (fun _ => ?_)
    refine g_bipush (pc' := 14) (v := -2) rfl rfl (by decide) ?_
    exact g_ireturn rfl rfl (mf h (by unfold r_street; rw [if_pos u0]) Fr.rf hM)
theorem d_first {w : Int32} (hM : MI m A) (h60 : aN A ≤ 60) {Mx : Nat} (hW : WFs Mx (aS A)) (h : ∀ m', Fr 53 73 m m' → MI m' (r_first A w).2 → K (r_first A w).1 m') : gCi X 142 [.ref 53, .int w] m K := by
  refine g_inI rfl ?_
  refine g_iload_n (pc' := 1) rfl rfl rfl ?_
  refine g_i2l (pc' := 2) rfl rfl ?_
  refine g_lconst (pc' := 3) (v := 0) rfl rfl (by decide) ?_
  refine g_lconst (pc' := 4) (v := 1) rfl rfl (by decide) ?_
  refine g_calli (pc' := 7) rfl rfl rfl rfl (Or.inl rfl) ?_
  refine d_in (lo := 0) (hi := 1) (by decide) (by decide) (fun u1 u2 => ?_) (fun u0 => ?_)
  · refine g_if_ne (pc' := 10) (t := 13) rfl rfl rfl (fun _ => ?_) (fun c => absurd c (by decide))
    refine g_aload_n (pc' := 14) rfl rfl rfl ?_
    refine g_aload_n (pc' := 15) rfl rfl rfl ?_
    refine g_calli (pc' := 18) rfl rfl rfl rfl (Or.inr rfl) ?_
    refine d_refusal hM h60 hW (fun hd m1 k1 s1 d1 => ?_) (fun Tt m1 hd hB k1 r1 d1 a1 w1 => ?_) (fun Tt m1 hd hB k1 r1 d1 => ?_)
    · refine g_calli (pc' := 21) rfl rfl rfl rfl (Or.inr rfl) ?_
      refine d_backA k1 d1 hM (fun m2 f2 i2 s2 => ?_)
      refine g_istore_n (pc' := 22) rfl rfl rfl ?_
      refine g_iload_n (pc' := 23) rfl rfl rfl ?_
      refine g_bipush (pc' := 25) (v := -6) rfl rfl (by decide) ?_
      refine g_icmp_eq (pc' := 28) (t := 32) rfl rfl rfl (fun c => absurd c (by decide)) (fun _ => ?_)
      refine g_iload_n (pc' := 29) rfl rfl rfl ?_
      refine g_goto (pc' := 47) rfl rfl ?_
      exact g_ireturn rfl rfl (mf h (by unfold r_first; rw [if_neg (nn ⟨u1, u2⟩), rd0 hd]) f2 i2)
    · refine g_calli (pc' := 21) rfl rfl rfl rfl (Or.inr rfl) ?_
      refine d_backA k1 d1 hM (fun m2 f2 i2 s2 => ?_)
      refine g_istore_n (pc' := 22) rfl rfl rfl ?_
      refine g_iload_n (pc' := 23) rfl rfl rfl ?_
      refine g_bipush (pc' := 25) (v := -6) rfl rfl (by decide) ?_
      refine g_icmp_eq (pc' := 28) (t := 32) rfl rfl rfl (fun _ => ?_) (fun c => absurd c (by decide))
      refine g_iload_n (pc' := 33) rfl rfl rfl ?_
      refine g_if_ne (pc' := 36) (t := 43) rfl rfl rfl (fun c_33 => ?_) (fun c_33 => ?_)
      · refine g_aload_n (pc' := 44) rfl rfl rfl ?_
        refine g_geti (pc' := 47) rfl rfl (i_11_21) ?_
        refine g_vi (y := Tt.2.2.2.2.2.2) ((s2 21 (by decide)).trans r1.2.2.2.2.2) ?_
        exact g_ireturn rfl rfl (mf h (by unfold r_first; rw [if_neg (nn ⟨u1, u2⟩), rd1 hd hB, if_neg c_33]) f2 i2)
      · refine g_aload_n (pc' := 37) rfl rfl rfl ?_
        refine g_geti (pc' := 40) rfl rfl (i_11_20) ?_
        refine g_vi (y := Tt.2.2.2.2.2.1) ((s2 20 (by decide)).trans r1.2.2.2.2.1) ?_
        refine g_goto (pc' := 47) rfl rfl ?_
        exact g_ireturn rfl rfl (mf h (by unfold r_first; rw [if_neg (nn ⟨u1, u2⟩), rd1 hd hB, if_pos c_33]) f2 i2)
    · refine g_calli (pc' := 21) rfl rfl rfl rfl (Or.inr rfl) ?_
      refine d_backA k1 d1 hM (fun m2 f2 i2 s2 => ?_)
      refine g_istore_n (pc' := 22) rfl rfl rfl ?_
      refine g_iload_n (pc' := 23) rfl rfl rfl ?_
      refine g_bipush (pc' := 25) (v := -6) rfl rfl (by decide) ?_
      refine g_icmp_eq (pc' := 28) (t := 32) rfl rfl rfl (fun c => absurd c (by decide)) (fun _ => ?_)
      refine g_iload_n (pc' := 29) rfl rfl rfl ?_
      refine g_goto (pc' := 47) rfl rfl ?_
      exact g_ireturn rfl rfl (mf h (by unfold r_first; rw [if_neg (nn ⟨u1, u2⟩), rd2 hd hB]) f2 i2)
  · refine g_if_ne (pc' := 10) (t := 13) rfl rfl rfl (fun c => absurd c (by decide)) (fun _ => ?_)
    refine g_bipush (pc' := 12) (v := -2) rfl rfl (by decide) ?_
    exact g_ireturn rfl rfl (mf h (by unfold r_first; rw [if_pos u0]) Fr.rf hM)
theorem mi_pad {n : Nat} {m' : aMem} {g : Nat → Int32} (hM : MI m A) (f : ∀ q, q ≠ 53 → q ≠ 61 → m'.1 q = m.1 q) (f5 : ∀ i, i ≠ 10 → m'.1 53 i = m.1 53 i) (hn : m'.1 53 10 = nI n) (hg : sg n (m'.1 61) = g) : MI m' (pA A n g) := by
  obtain ⟨h1, h2, h3, h4, h5, h6⟩ := hM
  have im : ∀ k i, imM m k i → imM m' k i := fun k i hi => by
    cases i with
    | none => exact (congrFun (f 72 (by decide) (by decide)) k).trans hi
    | some q =>
      refine ⟨(congrFun (f 72 (by decide) (by decide)) k).trans hi.1, ?_, ?_⟩
      · rw [← hi.2.1]; unfold stK; rw [f 71 (by decide) (by decide)]
      · rw [← hi.2.2]; unfold sgK; rw [f 71 (by decide) (by decide)]
  refine ⟨?_, hn, hg, ?_, im 0 _ h5, im 1 _ h6⟩
  · show stAt m' 53 = aS A
    rw [← h1]
    unfold stAt
    rw [f5 5 (by decide), f (53 + 1) (by decide) (by decide), f (53 + 2) (by decide) (by decide), f (53 + 3) (by decide) (by decide), f (53 + 4) (by decide) (by decide), f (53 + 5) (by decide) (by decide)]
  · show sgM m' = aT A
    rw [← h4]; unfold sgM
    rw [f5 8 (by decide), f 59 (by decide) (by decide), f 60 (by decide) (by decide)]
theorem sg_0 {f : Nat → Int32} : sg 0 f = fun _ => 0 := by funext q; simp [sg]
theorem mi_wipe (hM : MI m A) : MI (am_wi m.1 53 10 0, m.2) (pA A 0 (fun _ => 0)) := mi_pad hM (fun q a _ => by show am_wi m.1 53 10 0 q = _; rw [am_wi_n a]) (fun i hi => by show am_wi m.1 53 10 0 53 i = _; rw [am_wi_s, upd_ne hi]) (by show am_wi m.1 53 10 0 53 10 = nI 0; rw [am_wi_s, upd_at]; rfl) sg_0
theorem d_done (hM : MI m A) (h60 : aN A ≤ 60) {Mx : Nat} (hW : WFs Mx (aS A)) (h : ∀ m', Fr 53 73 m m' → MI m' (r_done A).2 → K (r_done A).1 m') : gCi X 143 [.ref 53] m K := by
  refine g_inI rfl ?_
  refine g_aload_n (pc' := 1) rfl rfl rfl ?_
  refine g_calli (pc' := 4) rfl rfl rfl rfl (Or.inr rfl) ?_
  refine d_refusal hM h60 hW (fun hd m1 k1 s1 d1 => ?_) (fun Tt m1 hd hB k1 r1 d1 a1 w1 => ?_) (fun Tt m1 hd hB k1 r1 d1 => ?_)
  · refine g_istore_n (pc' := 5) rfl rfl rfl ?_
    refine g_iload_n (pc' := 6) rfl rfl rfl ?_
    refine g_bipush (pc' := 8) (v := -6) rfl rfl (by decide) ?_
    refine g_icmp_eq (pc' := 11) (t := 17) rfl rfl rfl (fun c => absurd c (by decide)) (fun _ => ?_)
    refine g_aload_n (pc' := 12) rfl rfl rfl ?_
    refine g_iload_n (pc' := 13) rfl rfl rfl ?_
    refine g_calli (pc' := 16) rfl rfl rfl rfl (Or.inr rfl) ?_
    refine d_backA k1 d1 hM (fun m2 f2 i2 s2 => ?_)
    exact g_ireturn rfl rfl (mf h (by unfold r_done; rw [hd]) f2 i2)
  · refine g_istore_n (pc' := 5) rfl rfl rfl ?_
    refine g_iload_n (pc' := 6) rfl rfl rfl ?_
    refine g_bipush (pc' := 8) (v := -6) rfl rfl (by decide) ?_
    refine g_icmp_eq (pc' := 11) (t := 17) rfl rfl rfl (fun _ => ?_) (fun c => absurd c (by decide))
    refine g_aload_n (pc' := 18) rfl rfl rfl ?_
    refine g_iconst (pc' := 19) (v := 0) rfl rfl (by decide) ?_
    refine g_puti (pc' := 22) rfl rfl (i_11_10) ?_
    refine g_aload_n (pc' := 23) rfl rfl rfl ?_
    refine g_geti (pc' := 26) rfl rfl (i_11_14) ?_
    refine g_vi (y := nI Tt.2.1) (by show am_wi m1.1 53 10 0 53 14 = nI Tt.2.1; rw [am_wi_s, upd_ne (by decide)]; exact a1) ?_
    exact g_ireturn rfl rfl (mf h (by unfold r_done; rw [hd]; exact if_pos hB) (k1.fr.s (by omega) (by omega)) (mi_wipe (k1.mi hM r1.1)))
  · refine g_istore_n (pc' := 5) rfl rfl rfl ?_
    refine g_iload_n (pc' := 6) rfl rfl rfl ?_
    refine g_bipush (pc' := 8) (v := -6) rfl rfl (by decide) ?_
    refine g_icmp_eq (pc' := 11) (t := 17) rfl rfl rfl (fun c => absurd c (by decide)) (fun _ => ?_)
    refine g_aload_n (pc' := 12) rfl rfl rfl ?_
    refine g_iload_n (pc' := 13) rfl rfl rfl ?_
    refine g_calli (pc' := 16) rfl rfl rfl rfl (Or.inr rfl) ?_
    refine d_backA k1 d1 hM (fun m2 f2 i2 s2 => ?_)
    exact g_ireturn rfl rfl (mf h (by unfold r_done; rw [hd]; exact if_neg hB) f2 i2)
theorem d_wipe (hM : MI m A) (h : ∀ m', Fr 53 73 m m' → MI m' (r_wipe A).2 → K (r_wipe A).1 m') : gCi X 115 [.ref 53] m K := by
  refine g_inI rfl ?_
  refine g_aload_n (pc' := 1) rfl rfl rfl ?_
  refine g_geti (pc' := 4) rfl rfl (i_11_10) ?_
  refine g_vi (y := nI (aN A)) (hM.2.1) ?_
  refine g_istore_n (pc' := 5) rfl rfl rfl ?_
  refine g_aload_n (pc' := 6) rfl rfl rfl ?_
  refine g_iconst (pc' := 7) (v := 0) rfl rfl (by decide) ?_
  refine g_puti (pc' := 10) rfl rfl (i_11_10) ?_
  refine g_iload_n (pc' := 11) rfl rfl rfl ?_
  exact g_ireturn rfl rfl (mf h rfl (Fr.rf.s (by omega) (by omega)) (mi_wipe hM))
theorem d_say {x : Int32} (hM : MI m A) (h60 : aN A ≤ 60) (h : ∀ m', Fr 53 73 m m' → MI m' (r_say A x).2 → K (r_say A x).1 m') : gCi X 114 [.ref 53, .int x] m K := by
  refine g_inI rfl ?_
  refine g_iload_n (pc' := 1) rfl rfl rfl ?_
  refine g_i2l (pc' := 2) rfl rfl ?_
  refine g_ldc2_w (pc' := 5) (v := 33) rfl rfl (by decide) ?_
  refine g_ldc2_w (pc' := 8) (v := 126) rfl rfl (by decide) ?_
  refine g_calli (pc' := 11) rfl rfl rfl rfl (Or.inl rfl) ?_
  refine d_in (lo := 33) (hi := 126) (by decide) (by decide) (fun u1 u2 => ?_) (fun u0 => ?_)
  · refine g_if_ne (pc' := 14) (t := 17) rfl rfl rfl (fun _ => ?_) (fun c => absurd c (by decide))
    refine g_aload_n (pc' := 18) rfl rfl rfl ?_
    refine g_geti (pc' := 21) rfl rfl (i_11_10) ?_
    refine g_vi (y := nI (aN A)) (hM.2.1) ?_
    refine g_bipush (pc' := 23) (v := 60) rfl rfl (by decide) ?_
    refine g_icmp_ne (pc' := 26) (t := 29) rfl rfl rfl (fun c_23 => ?_) (fun c_23 => ?_)
    · have hlt : aN A < 60 := by
        rcases Nat.lt_or_ge (aN A) 60 with z | z
        · exact z
        · exact absurd (show nI (aN A) = 60 by rw [show aN A = 60 by omega]; rfl) c_23
      refine g_aload_n (pc' := 30) rfl rfl rfl ?_
      refine g_getr (pc' := 33) rfl rfl (f_11_9) ?_
      refine g_aload_n (pc' := 34) rfl rfl rfl ?_
      refine g_geti (pc' := 37) rfl rfl (i_11_10) ?_
      refine g_vi (y := nI (aN A)) (hM.2.1) ?_
      refine g_iload_n (pc' := 38) rfl rfl rfl ?_
      refine g_iast (pc' := 39) rfl rfl (a_61) hlt rfl ?_
      refine g_aload_n (pc' := 40) rfl rfl rfl ?_
      refine g_dup (pc' := 41) rfl rfl rfl ?_
      refine g_geti (pc' := 44) rfl rfl (i_11_10) ?_
      refine g_vi (y := nI (aN A)) (by show am_wi m.1 61 (aN A) x 53 10 = nI (aN A); rw [am_wi_n (by decide)]; exact hM.2.1) ?_
      refine g_iconst (pc' := 45) (v := 1) rfl rfl (by decide) ?_
      refine g_iadd (pc' := 46) rfl rfl ?_
      refine g_vi (y := nI (aN A + 1)) (nI_1 _) ?_
      refine g_puti (pc' := 49) rfl rfl (i_11_10) ?_
      refine g_aload_n (pc' := 50) rfl rfl rfl ?_
      refine g_geti (pc' := 53) rfl rfl (i_11_10) ?_
      refine g_vi (y := nI (aN A + 1)) (by show am_wi (am_wi m.1 61 (aN A) x) 53 10 (nI (aN A + 1)) 53 10 = nI (aN A + 1); rw [am_wi_s, upd_at]) ?_
      exact g_ireturn rfl rfl (mf h (by unfold r_say; rw [if_neg (nn ⟨u1, u2⟩), if_pos hlt]) ((Fr.rf.s (by omega) (by omega)).s (by omega) (by omega)) (mi_pad hM (fun q a b => by show am_wi (am_wi m.1 61 (aN A) x) 53 10 (nI (aN A + 1)) q = _; rw [am_wi_n a, am_wi_n b]) (fun i hi => by show am_wi (am_wi m.1 61 (aN A) x) 53 10 (nI (aN A + 1)) 53 i = _; rw [am_wi_s, upd_ne hi, am_wi_n (by decide)]) (by show am_wi (am_wi m.1 61 (aN A) x) 53 10 (nI (aN A + 1)) 53 10 = _; rw [am_wi_s, upd_at]) (by show sg (aN A + 1) (am_wi (am_wi m.1 61 (aN A) x) 53 10 (nI (aN A + 1)) 61) = upd (aG A) (aN A) x; rw [am_wi_n (by decide), am_wi_s, sg_upd, hM.2.2.1])))
    · refine g_bipush (pc' := 28) (v := -4) rfl rfl (by decide) ?_
      exact g_ireturn rfl rfl (mf h (by unfold r_say; rw [if_neg (nn ⟨u1, u2⟩), if_neg (fun z => by have := (nI_eq (b := 60) (by omega) (by decide)).mp c_23; omega)]) Fr.rf hM)
  · refine g_if_ne (pc' := 14) (t := 17) rfl rfl rfl (fun c => absurd c (by decide)) (fun _ => ?_)
    refine g_bipush (pc' := 16) (v := -2) rfl rfl (by decide) ?_
    exact g_ireturn rfl rfl (mf h (by unfold r_say; rw [if_pos u0]) Fr.rf hM)
end M6
