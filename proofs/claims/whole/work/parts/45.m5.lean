/-! THE MODEL: the days that the pad tells -/
section M5
variable {X : aX} {m : aMem} {l : List aAct}
theorem hit_lt {s : aStr} {a b : Nat} (ha : a < 10) (hb : b < 10) : hitOf s a b < 10 := by
  unfold hitOf
  split <;> assumption
theorem act_v {s : aStr} {kd a b : Nat} (ha : a < 10) (hb : kd = 0 → b < 10) : (actS s kd a b).2 = -6 ∨ ∃ k, k < 10 ∧ (actS s kd a b).2 = nI k := by
  unfold actS
  split
  · unfold strikeS
    split
    · exact Or.inr ⟨_, hit_lt ha (hb rfl), rfl⟩
    · exact Or.inl rfl
  · unfold bakeS
    dsimp only
    split
    · exact Or.inr ⟨_, ha, rfl⟩
    · exact Or.inl rfl
  · exact Or.inl rfl
  · exact Or.inl rfl
theorem why_c {s : aStr} {kd a b : Nat} : whyS s kd a b = 0 ∨ ∃ w, 0 < w ∧ w < 6 ∧ whyS s kd a b = nI w := by
  unfold whyS
  repeat' split
  all_goals first | exact Or.inl rfl | exact Or.inr ⟨1, by decide, by decide, rfl⟩ | exact Or.inr ⟨2, by decide, by decide, rfl⟩ | exact Or.inr ⟨3, by decide, by decide, rfl⟩ | exact Or.inr ⟨4, by decide, by decide, rfl⟩ | exact Or.inr ⟨5, by decide, by decide, rfl⟩
def okA (x : aAct) : Prop := x.1 < 4 ∧ x.2.1 < 10 ∧ (x.1 = 0 → x.2.2 < 10)
theorem act_okA {g : Nat → Int32} {q : Nat} (h : faultAt g q = -6) (hq : q < 100) : okA (actAt g q) := by
  unfold okA actAt
  rcases act_ok h hq with ⟨h1, _⟩ | ⟨_, ⟨a, ha, ea⟩, h2⟩
  · rw [h1]; simp
  · have e : letN (g q) = a := by rw [ea]; exact letN_k ha
    rcases h2 with ⟨h1, b, hb, eb⟩ | h1 | ⟨h1, _⟩
    · have e2 : letN (g (q + 2)) = b := by rw [eb]; exact letN_k hb
      rw [h1, e, e2]; simp [ha, hb]
    · rw [h1, e]; simp [ha]
    · rw [h1, e]; simp [ha]
theorem parse_ok {g : Nat → Int32} {n : Nat} (hn : n ≤ 60) : ∀ d q l, parseA g n d q = some l → l.length ≤ d ∧ ∀ x, x ∈ l → okA x := by
  intro d
  induction d with
  | zero => intro q l h; cases h; exact ⟨Nat.le_refl _, fun x hx => by cases hx⟩
  | succ d ih =>
    intro q l h
    rw [parseA] at h
    by_cases hq : q < n
    case neg => rw [if_neg hq] at h; cases h; exact ⟨Nat.zero_le _, fun x hx => by cases hx⟩
    rw [if_pos hq] at h
    by_cases hf : faultAt g q = -6
    case neg => rw [if_neg hf] at h; cases h
    rw [if_pos hf] at h
    obtain ⟨l2, h2, rfl⟩ := Option.map_eq_some_iff.mp h
    obtain ⟨i1, i2⟩ := ih _ _ h2
    refine ⟨by simp; exact i1, fun x hx => ?_⟩
    rcases List.mem_cons.mp hx with rfl | hx
    · exact act_okA hf (by omega)
    · exact i2 x hx
def MR (m : aMem) (T : aTl) : Prop := stAt m 53 = T.1 ∧ m.1 53 18 = T.2.2.1 ∧ m.1 53 19 = T.2.2.2.1 ∧ m.1 53 16 = nI T.2.2.2.2.1 ∧ m.1 53 20 = T.2.2.2.2.2.1 ∧ m.1 53 21 = T.2.2.2.2.2.2
def GI (M : Nat) (T : aTl) (i : Nat) : Prop := (badT T = -6 ∨ ∃ k, k < 60 ∧ badT T = nI k) ∧ (badT T = -6 → T.2.1 = i ∧ T.2.2.2.1 = -6) ∧ T.2.2.2.2.1 ≤ i ∧ (T.2.2.2.2.1 = 0 → T.2.2.2.2.2.1 = -6) ∧ (T.2.2.2.2.1 ≠ 0 → ∃ k, k < 60 ∧ T.2.2.2.2.2.1 = nI k) ∧ WFs M T.1
theorem gi_0 {M : Nat} {s : aStr} (h : WFs M s) : GI M (T0 s) 0 := ⟨Or.inl rfl, fun _ => ⟨rfl, rfl⟩, Nat.le_refl _, fun _ => rfl, fun z => absurd rfl z, h⟩
theorem gi_s {M i : Nat} {T : aTl} {x : aAct} (h : GI M T i) (hb : badT T = -6) (hx : okA x) (hi : i < 60) : GI M (tell1 T x) (i + 1) := by
  obtain ⟨s, ac, bad, wh, br, fa, fn⟩ := T
  obtain ⟨kd, a, b⟩ := x
  obtain ⟨_, h2, h3, h4, h5, h6⟩ := h
  obtain ⟨e1, e2⟩ := h2 hb
  dsimp only at e1 e2 h3 h4 h5 h6
  have eb : bad = -6 := hb
  subst e1; subst e2; subst eb
  unfold tell1
  by_cases hw : whyS s kd a b = 0
  · rw [if_pos hw]
    have hW := (wf_act h6 hx.1 hx.2.1 hx.2.2 hw).1
    unfold noteT upT incT
    dsimp only
    by_cases hv : (actS s kd a b).2 = -6
    · rw [if_pos hv]
      exact ⟨Or.inl rfl, fun _ => ⟨rfl, rfl⟩, by show br ≤ _; omega, h4, h5, hW⟩
    · rw [if_neg hv]
      refine ⟨Or.inl rfl, fun _ => ⟨rfl, rfl⟩, by show br + 1 ≤ _; omega, fun z => absurd z (Nat.succ_ne_zero _), fun _ => ?_, hW⟩
      show ∃ k, k < 60 ∧ (if br = 0 then nI ac else fa) = nI k
      by_cases hb0 : br = 0
      · rw [if_pos hb0]; exact ⟨ac, hi, rfl⟩
      · rw [if_neg hb0]; exact h5 hb0
  · rw [if_neg hw]
    exact ⟨Or.inr ⟨ac, hi, rfl⟩, fun z => absurd z (nI_ne6 (by omega)), by show br ≤ _; omega, h4, h5, h6⟩
theorem gi_i {M i j : Nat} {T : aTl} (h : GI M T i) (hb : ¬ badT T = -6) (hij : i ≤ j) : GI M T j := ⟨h.1, fun z => absurd z hb, Nat.le_trans h.2.2.1 hij, h.2.2.2⟩
/-- the model's own: of its fields only those of a telling, and its street -/
def GS (m m' : aMem) : Prop := Fr 53 59 m m' ∧ ∀ i, i ≠ 5 → (i < 15 ∨ 21 < i) → m'.1 53 i = m.1 53 i
theorem GS.rf : GS m m := ⟨Fr.rf, fun _ _ _ => rfl⟩
theorem GS.tr {m1 m2 : aMem} (h : GS m m1) (h' : GS m1 m2) : GS m m2 := ⟨h.1.tr h'.1, fun i a b => (h'.2 i a b).trans (h.2 i a b)⟩
theorem GS.w {m1 : aMem} {k : Nat} {v : Int32} (h : GS m m1) (hk : 15 ≤ k ∧ k ≤ 21) : GS m (am_wi m1.1 53 k v, m1.2) := h.tr ⟨Fr.rf.s (by omega) (by omega), fun i a b => by show am_wi m1.1 53 k v 53 i = _; rw [am_wi_s, upd_ne (by omega)]⟩
theorem GS.al {m' : aMem} (h : GS m m') (hA : AL m l) : AL m' l := ⟨(h.2 14 (by decide) (by decide)).trans hA.1, fun j x hj => by rw [h.1.i (q := 62) (by omega), h.1.i (q := 63) (by omega), h.1.i (q := 64) (by omega)]; exact hA.2 j x hj⟩
theorem mr_w {i : Nat} {v : Int32} {T : aTl} (h : MR m T) (hi : i ≠ 5) (h18 : i = 18 → v = T.2.2.1) (h19 : i = 19 → v = T.2.2.2.1) (hx : i < 16 ∨ i = 18 ∨ i = 19 ∨ 21 < i) : MR (am_wi m.1 53 i v, m.2) T := by
  unfold MR
  simp only [am_wi_s]
  refine ⟨(w_x (Or.inr ⟨rfl, hi⟩)).trans h.1, ?_, ?_, ?_, ?_, ?_⟩
  · by_cases e : i = 18
    · subst e; rw [upd_at]; exact h18 rfl
    · rw [upd_ne (by omega)]; exact h.2.1
  · by_cases e : i = 19
    · subst e; rw [upd_at]; exact h19 rfl
    · rw [upd_ne (by omega)]; exact h.2.2.1
  · rw [upd_ne (by omega)]; exact h.2.2.2.1
  · rw [upd_ne (by omega)]; exact h.2.2.2.2.1
  · rw [upd_ne (by omega)]; exact h.2.2.2.2.2
theorem mr_act {m1 : aMem} {T : aTl} {kd a b : Nat} (hR : MR m T) (hF : Fr 53 59 m m1) (hs : stAt m1 53 = (actS (stAt m 53) kd a b).1) (hb : ∀ i, i ≠ 5 → m1.1 53 i = bk (upd (m.1 53) 15 (-6)) (actS (stAt m 53) kd a b).2 i) (hw : whyS T.1 kd a b = 0) : GS m m1 ∧ m1.1 53 15 = (actS T.1 kd a b).2 ∧ m1.1 53 20 = T.2.2.2.2.2.1 ∧ m1.1 53 21 = T.2.2.2.2.2.2 ∧ m1.1 53 18 = T.2.2.1 ∧ m1.1 53 19 = T.2.2.2.1 ∧ m1.1 53 16 = nI (tell1 T (kd, a, b)).2.2.2.2.1 ∧ stAt m1 53 = (tell1 T (kd, a, b)).1 := by
  obtain ⟨s, ac, bad, wh, br, fa, fn⟩ := T
  obtain ⟨h1, h2, h3, h4, h5, h6⟩ := hR
  dsimp only at h1 h2 h3 h4 h5 h6 hw
  rw [h1] at hs hb
  have e15 : bk (upd (m.1 53) 15 (-6)) (actS s kd a b).2 15 = (actS s kd a b).2 := by
    unfold bk
    by_cases hv : (actS s kd a b).2 = -6
    · rw [if_pos hv, upd_at, hv]
    · rw [if_neg hv, upd_ne (by decide), upd_at]
  have ex : ∀ i, i ≠ 15 → i ≠ 16 → bk (upd (m.1 53) 15 (-6)) (actS s kd a b).2 i = m.1 53 i := fun i a1 a2 => by
    unfold bk
    split
    · rw [upd_ne a1]
    · rw [upd_ne a2, upd_ne a1, upd_ne a1]
  refine ⟨⟨hF, fun i a1 a2 => by rw [hb i a1, ex i (by omega) (by omega)]⟩, (hb 15 (by decide)).trans e15, (hb 20 (by decide)).trans ((ex 20 (by decide) (by decide)).trans h5), (hb 21 (by decide)).trans ((ex 21 (by decide) (by decide)).trans h6), (hb 18 (by decide)).trans ((ex 18 (by decide) (by decide)).trans h2), (hb 19 (by decide)).trans ((ex 19 (by decide) (by decide)).trans h3), ?_, ?_⟩
  · rw [hb 16 (by decide)]
    unfold tell1 noteT upT incT bk
    dsimp only
    rw [if_pos hw]
    by_cases hv : (actS s kd a b).2 = -6
    · rw [if_pos hv, if_pos hv, upd_ne (by decide)]; exact h4
    · rw [if_neg hv, if_neg hv, upd_at, upd_ne (by decide), h4]; exact nI_1 br
  · rw [hs]
    unfold tell1 noteT upT incT
    dsimp only
    rw [if_pos hw]
    by_cases hv : (actS s kd a b).2 = -6
    · rw [if_pos hv]
    · rw [if_neg hv]
theorem tell1_f {T : aTl} {kd a b : Nat} (hw : whyS T.1 kd a b = 0) : (tell1 T (kd, a, b)).2.2.1 = T.2.2.1 ∧ (tell1 T (kd, a, b)).2.2.2.1 = T.2.2.2.1 ∧ ((actS T.1 kd a b).2 = -6 ∨ T.2.2.2.2.1 ≠ 0 → (tell1 T (kd, a, b)).2.2.2.2.2 = T.2.2.2.2.2) ∧ (¬ (actS T.1 kd a b).2 = -6 → T.2.2.2.2.1 = 0 → (tell1 T (kd, a, b)).2.2.2.2.2 = (nI T.2.1, (actS T.1 kd a b).2)) := by
  obtain ⟨s, ac, bad, wh, br, fa, fn⟩ := T
  unfold tell1 noteT upT incT
  dsimp only at hw ⊢
  rw [if_pos hw]
  by_cases hv : (actS s kd a b).2 = -6
  · rw [if_pos hv]
    exact ⟨rfl, rfl, fun _ => rfl, fun z => absurd hv z⟩
  · rw [if_neg hv]
    refine ⟨rfl, rfl, fun z => ?_, fun _ z => ?_⟩
    · have hb := z.resolve_left hv
      dsimp only
      rw [if_neg hb, if_neg hb]
    · dsimp only
      rw [if_pos z, if_pos z]
theorem d_goOne {K : aMem → Prop} {M i kd a b : Nat} {T : aTl} (hA : AL m l) (hi : l[i]? = some (kd, a, b)) (h60 : i < 60) (hx : okA (kd, a, b)) (hR : MR m T) (hG : GI M T i) (hB : badT T = -6) (hw : whyS T.1 kd a b = 0) (h : ∀ m', GS m m' → MR m' (tell1 T (kd, a, b)) → K m') : gCv X 130 [.ref 53, .int (nI i)] m K := by
  refine g_inV rfl ?_
  have hW := hG.2.2.2.2.2
  have hW1 := (wf_act hW hx.1 hx.2.1 hx.2.2 hw).2
  have es := hR.1
  refine g_aload_n (pc' := 1) rfl rfl rfl ?_
  refine g_aload_n (pc' := 2) rfl rfl rfl ?_
  refine g_getr (pc' := 5) rfl rfl (f_11_11) ?_
  refine g_iload_n (pc' := 6) rfl rfl rfl ?_
  refine g_iald (pc' := 7) rfl rfl (a_62) (k := i) (by omega) rfl ?_
  refine g_vi (y := nI kd) ((hA.2 i _ hi).1) ?_
  refine g_aload_n (pc' := 8) rfl rfl rfl ?_
  refine g_getr (pc' := 11) rfl rfl (f_11_12) ?_
  refine g_iload_n (pc' := 12) rfl rfl rfl ?_
  refine g_iald (pc' := 13) rfl rfl (a_63) (k := i) (by omega) rfl ?_
  refine g_vi (y := nI a) ((hA.2 i _ hi).2.1) ?_
  refine g_aload_n (pc' := 14) rfl rfl rfl ?_
  refine g_getr (pc' := 17) rfl rfl (f_11_13) ?_
  refine g_iload_n (pc' := 18) rfl rfl rfl ?_
  refine g_iald (pc' := 19) rfl rfl (a_64) (k := i) (by omega) rfl ?_
  refine g_vi (y := nI b) ((hA.2 i _ hi).2.2) ?_
  refine g_callv (pc' := 22) rfl rfl rfl rfl (Or.inr rfl) ?_
  refine d_happen hx.1 hx.2.1 hx.2.2 (by rw [es]; exact hW1) (fun k hk => by rw [es]; exact hW.hard hk) (fun m1 f1 s1 b1 => ?_)
  obtain ⟨g1, g15, g20, g21, g18, g19, g16, gs⟩ := mr_act hR f1 s1 b1 hw
  obtain ⟨t1, t2, t3, t4⟩ := tell1_f hw
  refine g_aload_n (pc' := 23) rfl rfl rfl ?_
  refine g_geti (pc' := 26) rfl rfl (i_11_15) ?_
  refine g_vi (y := (actS T.1 kd a b).2) (g15) ?_
  refine g_if_lt (pc' := 29) (t := 49) rfl rfl rfl (fun c_26 => ?_) (fun c_26 => ?_)
  · exact g_return rfl rfl (h m1 g1 (by
        have hv : (actS T.1 kd a b).2 = -6 := (act_v hx.2.1 hx.2.2).resolve_right (fun ⟨k, hk, e⟩ => by rw [e] at c_26; exact nI_pos (by omega) c_26)
        have t3 := t3 (Or.inl hv)
        exact ⟨gs, by rw [t1]; exact g18, by rw [t2]; exact g19, g16, by rw [t3]; exact g20, by rw [t3]; exact g21⟩))
  · have hv : ¬ (actS T.1 kd a b).2 = -6 := fun z => c_26 (by rw [z]; decide)
    refine g_aload_n (pc' := 30) rfl rfl rfl ?_
    refine g_geti (pc' := 33) rfl rfl (i_11_20) ?_
    refine g_vi (y := T.2.2.2.2.2.1) (g20) ?_
    refine g_if_ge (pc' := 36) (t := 49) rfl rfl rfl (fun c_33 => ?_) (fun c_33 => ?_)
    · exact g_return rfl rfl (h m1 g1 (by
          have hb0 : T.2.2.2.2.1 ≠ 0 := fun z => by have := hG.2.2.2.1 z; rw [this] at c_33; exact absurd c_33 (by decide)
          have t3 := t3 (Or.inr hb0)
          exact ⟨gs, by rw [t1]; exact g18, by rw [t2]; exact g19, g16, by rw [t3]; exact g20, by rw [t3]; exact g21⟩))
    · refine g_aload_n (pc' := 37) rfl rfl rfl ?_
      refine g_iload_n (pc' := 38) rfl rfl rfl ?_
      refine g_puti (pc' := 41) rfl rfl (i_11_20) ?_
      refine g_aload_n (pc' := 42) rfl rfl rfl ?_
      refine g_aload_n (pc' := 43) rfl rfl rfl ?_
      refine g_geti (pc' := 46) rfl rfl (i_11_15) ?_
      refine g_vi (y := (actS T.1 kd a b).2) (by show am_wi m1.1 53 20 (nI i) 53 15 = (actS T.1 kd a b).2; rw [am_wi_s, upd_ne (by decide)]; exact g15) ?_
      refine g_puti (pc' := 49) rfl rfl (i_11_21) ?_
      exact g_return rfl rfl (h _ ((g1.w (by decide)).w (by decide)) (by
          have hb0 : T.2.2.2.2.1 = 0 := Classical.byContradiction (fun z => by obtain ⟨k, hk, e⟩ := hG.2.2.2.2.1 z; rw [e] at c_33; exact c_33 (nI_pos' (by omega)))
          have t4 := t4 hv hb0
          rw [(hG.2.1 hB).1] at t4
          unfold MR
          simp only [am_wi_s]
          refine ⟨(w_x (m := (am_wi m1.1 53 20 (nI i), m1.2)) (Or.inr ⟨rfl, by decide⟩)).trans ((w_x (Or.inr ⟨rfl, by decide⟩)).trans gs), ?_, ?_, ?_, ?_, ?_⟩
          · rw [upd_ne (by decide), upd_ne (by decide), t1]; exact g18
          · rw [upd_ne (by decide), upd_ne (by decide), t2]; exact g19
          · rw [upd_ne (by decide), upd_ne (by decide)]; exact g16
          · rw [upd_ne (by decide), upd_at, t4]
          · rw [upd_at, t4]))
theorem d_whyNot2 {K : Int32 → aMem → Prop} {kd a b : Nat} (hk : kd < 4) (ha : a < 10) (hb : kd = 0 → b < 10) (h99 : sH (stAt m 53) a ≤ 99) (hD : sD (stAt m 53) ≤ 99) (h0 : whyS (stAt m 53) kd a b = 0 → K 0 m) (h1 : ∀ w, 0 < w → w < 6 → whyS (stAt m 53) kd a b = nI w → K (nI w) m) : gCi X 122 [.ref 53, .int (nI kd), .int (nI a), .int (nI b)] m K := by
  refine d_whyNot hk ha hb h99 hD ?_
  rcases why_c (s := stAt m 53) (kd := kd) (a := a) (b := b) with e | ⟨w, h2, h3, e⟩
  · rw [e]; exact h0 e
  · rw [e]; exact h1 w h2 h3 e
theorem mr_bad {M i kd a b w : Nat} {T : aTl} (hR : MR m T) (hG : GI M T i) (hB : badT T = -6) (hw : whyS T.1 kd a b = nI w) (h0 : 0 < w ∧ w < 6) : MR (am_wi (am_wi m.1 53 18 (nI i)) 53 19 (nI w), m.2) (tell1 T (kd, a, b)) := by
  obtain ⟨s, ac, bad, wh, br, fa, fn⟩ := T
  have e := (hG.2.1 hB).1
  dsimp only at e hw
  subst e
  obtain ⟨h1, h2, h3, h4, h5, h6⟩ := hR
  unfold tell1 MR
  dsimp only
  rw [if_neg (by rw [hw]; exact fun z => by have := (nIk0 (by omega)).mp z; omega)]
  simp only [am_wi_s]
  refine ⟨(w_x (m := (am_wi m.1 53 18 (nI ac), m.2)) (Or.inr ⟨rfl, by decide⟩)).trans ((w_x (Or.inr ⟨rfl, by decide⟩)).trans h1), ?_, ?_, ?_, ?_, ?_⟩
  · rw [upd_ne (by decide), upd_at]
  · rw [upd_at, hw]
  · rw [upd_ne (by decide), upd_ne (by decide)]; exact h4
  · rw [upd_ne (by decide), upd_ne (by decide)]; exact h5
  · rw [upd_ne (by decide), upd_ne (by decide)]; exact h6
theorem mr_0 : MR (am_wi (am_wi (am_wi (am_wi (am_wi m.1 53 18 (-6)) 53 19 (-6)) 53 20 (-6)) 53 21 (-6)) 53 16 0, m.2) (T0 (stAt m 53)) := by
  unfold MR
  refine ⟨(w_x (m := (am_wi (am_wi (am_wi (am_wi m.1 53 18 (-6)) 53 19 (-6)) 53 20 (-6)) 53 21 (-6), m.2)) (Or.inr ⟨rfl, by decide⟩)).trans ((w_x (m := (am_wi (am_wi (am_wi m.1 53 18 (-6)) 53 19 (-6)) 53 20 (-6), m.2)) (Or.inr ⟨rfl, by decide⟩)).trans ((w_x (m := (am_wi (am_wi m.1 53 18 (-6)) 53 19 (-6), m.2)) (Or.inr ⟨rfl, by decide⟩)).trans ((w_x (m := (am_wi m.1 53 18 (-6), m.2)) (Or.inr ⟨rfl, by decide⟩)).trans (w_x (Or.inr ⟨rfl, by decide⟩))))), ?_, ?_, ?_, ?_, ?_⟩ <;> simp only [am_wi_s] <;> rfl
theorem d_goDays {K : aMem → Prop} {M : Nat} (hA : AL m l) (hl : l.length ≤ 60) (hok : ∀ x, x ∈ l → okA x) (hW : WFs M (stAt m 53)) (h : ∀ m', GS m m' → MR m' (tellL (T0 (stAt m 53)) l) → GI M (tellL (T0 (stAt m 53)) l) l.length → K m') : gCv X 131 [.ref 53] m K := by
  refine g_inV rfl ?_
  have loop : ∀ (d i : Nat) (m1 : aMem) (T : aTl) (v2 : Value), i + d = l.length → GS m m1 → MR m1 T → GI M T i → tellL T (l.drop i) = tellL (T0 (stAt m 53)) l → gG X 131 31 [.ref 53, .int (nI i), v2] [] m1 (fun r m' => r = none ∧ K m') := by
    intro d
    induction d with
    | zero =>
      intro i m1 T v2 hd hS hR hG hr
      have hi : i = l.length := by omega
      subst hi
      rw [List.drop_length, tellL] at hr
      refine g_iload_n (pc' := 32) rfl rfl rfl ?_
      refine g_aload_n (pc' := 33) rfl rfl rfl ?_
      refine g_geti (pc' := 36) rfl rfl (i_11_14) ?_
      refine g_vi (y := nI l.length) ((hS.al hA).1) ?_
      refine g_icmp_ge (pc' := 39) (t := 112) rfl rfl rfl (fun c_36 => ?_) (fun c_36 => absurd (nI_le (Nat.le_refl l.length) (by omega)) c_36)
      exact g_return rfl rfl (h m1 hS (by rw [← hr]; exact hR) (by rw [← hr]; exact hG))
    | succ d ih =>
      intro i m1 T v2 hd hS hR hG hr
      have hlt : i < l.length := by omega
      have hb : badT T = -6 ∨ ¬ badT T = -6 := Classical.em _
      have hdr : l.drop i = l[i] :: l.drop (i + 1) := List.drop_eq_getElem_cons hlt
      have hi0 : l[i]? = some l[i] := List.getElem?_eq_getElem hlt
      have hx := hok l[i] (List.getElem_mem hlt)
      generalize hxl : l[i] = x at hdr hi0 hx
      obtain ⟨kd, a, b⟩ := x
      have hA1 := hS.al hA
      have es := hR.1
      refine g_iload_n (pc' := 32) rfl rfl rfl ?_
      refine g_aload_n (pc' := 33) rfl rfl rfl ?_
      refine g_geti (pc' := 36) rfl rfl (i_11_14) ?_
      refine g_vi (y := nI l.length) ((hS.al hA).1) ?_
      refine g_icmp_ge (pc' := 39) (t := 112) rfl rfl rfl (fun c_36 => absurd c_36 (nI_ge (b := l.length) hlt (by omega))) (fun c_36 => ?_)
      refine g_aload_n (pc' := 40) rfl rfl rfl ?_
      refine g_geti (pc' := 43) rfl rfl (i_11_18) ?_
      refine g_vi (y := badT T) (hR.2.1) ?_
      refine g_if_ge (pc' := 46) (t := 112) rfl rfl rfl (fun c_43 => ?_) (fun c_43 => ?_)
      · exact g_return rfl rfl (h m1 hS (by rw [← hr, hdr, tellL, if_neg (fun z => by rw [z] at c_43; exact absurd c_43 (by decide))]; exact hR) (by rw [← hr, hdr, tellL, if_neg (fun z => by rw [z] at c_43; exact absurd c_43 (by decide))]; exact gi_i hG (fun z => by rw [z] at c_43; exact absurd c_43 (by decide)) (by omega)))
      · have hB : badT T = -6 := hG.1.resolve_right (fun ⟨k, hk, e⟩ => c_43 (by rw [e]; exact nI_pos' (by omega)))
        refine g_aload_n (pc' := 47) rfl rfl rfl ?_
        refine g_aload_n (pc' := 48) rfl rfl rfl ?_
        refine g_getr (pc' := 51) rfl rfl (f_11_11) ?_
        refine g_iload_n (pc' := 52) rfl rfl rfl ?_
        refine g_iald (pc' := 53) rfl rfl (a_62) (k := i) (by omega) rfl ?_
        refine g_vi (y := nI kd) ((hA1.2 i _ hi0).1) ?_
        refine g_aload_n (pc' := 54) rfl rfl rfl ?_
        refine g_getr (pc' := 57) rfl rfl (f_11_12) ?_
        refine g_iload_n (pc' := 58) rfl rfl rfl ?_
        refine g_iald (pc' := 59) rfl rfl (a_63) (k := i) (by omega) rfl ?_
        refine g_vi (y := nI a) ((hA1.2 i _ hi0).2.1) ?_
        refine g_aload_n (pc' := 60) rfl rfl rfl ?_
        refine g_getr (pc' := 63) rfl rfl (f_11_13) ?_
        refine g_iload_n (pc' := 64) rfl rfl rfl ?_
        refine g_iald (pc' := 65) rfl rfl (a_64) (k := i) (by omega) rfl ?_
        refine g_vi (y := nI b) ((hA1.2 i _ hi0).2.2) ?_
        refine g_calli (pc' := 68) rfl rfl rfl rfl (Or.inr rfl) ?_
        refine d_whyNot2 hx.1 hx.2.1 hx.2.2 (by rw [es]; exact hG.2.2.2.2.2.hard hx.2.1) (by rw [es]; exact hG.2.2.2.2.2.day) (fun w0 => ?_) (fun w w1 w2 w3 => ?_)
        · refine g_istore_n (pc' := 69) rfl rfl rfl ?_
          refine g_aload_n (pc' := 70) rfl rfl rfl ?_
          refine g_iload_n (pc' := 71) rfl rfl rfl ?_
          refine g_if_le (pc' := 74) (t := 78) rfl rfl rfl (fun _ => ?_) (fun c => absurd c (by decide))
          refine g_bipush (pc' := 80) (v := -6) rfl rfl (by decide) ?_
          refine g_puti (pc' := 83) rfl rfl (i_11_18) ?_
          refine g_aload_n (pc' := 84) rfl rfl rfl ?_
          refine g_iload_n (pc' := 85) rfl rfl rfl ?_
          refine g_if_le (pc' := 88) (t := 92) rfl rfl rfl (fun _ => ?_) (fun c => absurd c (by decide))
          refine g_bipush (pc' := 94) (v := -6) rfl rfl (by decide) ?_
          refine g_puti (pc' := 97) rfl rfl (i_11_19) ?_
          refine g_iload_n (pc' := 98) rfl rfl rfl ?_
          refine g_if_ne (pc' := 101) (t := 106) rfl rfl rfl (fun c => absurd c (by decide)) (fun _ => ?_)
          refine g_aload_n (pc' := 102) rfl rfl rfl ?_
          refine g_iload_n (pc' := 103) rfl rfl rfl ?_
          refine g_callv (pc' := 106) rfl rfl rfl rfl (Or.inr rfl) ?_
          refine d_goOne (M := M) ((GS.w (GS.w GS.rf (by decide)) (by decide)).al hA1) hi0 (by omega) hx (mr_w (mr_w hR (by decide) (fun _ => hB.symm) (fun z => absurd z (by decide)) (by decide)) (by decide) (fun z => absurd z (by decide)) (fun _ => ((hG.2.1 hB).2).symm) (by decide)) hG hB (by rw [← es]; exact w0) (fun m3 g3 r3 => ?_)
          refine g_iinc (pc' := 109) (v := nI (i + 1)) rfl rfl rfl (nI_1 i) rfl ?_
          refine g_goto (pc' := 31) rfl rfl ?_
          exact ih (i + 1) m3 _ _ (by omega) (hS.tr (((GS.w (GS.w GS.rf (by decide)) (by decide))).tr g3)) r3 (gi_s hG hB hx (by omega)) (by rw [← hr, hdr, tellL, if_pos hB])
        · refine g_istore_n (pc' := 69) rfl rfl rfl ?_
          refine g_aload_n (pc' := 70) rfl rfl rfl ?_
          refine g_iload_n (pc' := 71) rfl rfl rfl ?_
          refine g_if_le (pc' := 74) (t := 78) rfl rfl rfl (fun c_71 => absurd c_71 (nI_ge (a := 0) w1 (by omega))) (fun c_71 => ?_)
          refine g_iload_n (pc' := 75) rfl rfl rfl ?_
          refine g_goto (pc' := 80) rfl rfl ?_
          refine g_puti (pc' := 83) rfl rfl (i_11_18) ?_
          refine g_aload_n (pc' := 84) rfl rfl rfl ?_
          refine g_iload_n (pc' := 85) rfl rfl rfl ?_
          refine g_if_le (pc' := 88) (t := 92) rfl rfl rfl (fun c_85 => absurd c_85 (nI_ge (a := 0) w1 (by omega))) (fun c_85 => ?_)
          refine g_iload_n (pc' := 89) rfl rfl rfl ?_
          refine g_goto (pc' := 94) rfl rfl ?_
          refine g_puti (pc' := 97) rfl rfl (i_11_19) ?_
          refine g_iload_n (pc' := 98) rfl rfl rfl ?_
          refine g_if_ne (pc' := 101) (t := 106) rfl rfl rfl (fun c_98 => ?_) (fun c_98 => absurd c_98 (fun z => by have := (nIk0 (by omega)).mp z; omega))
          refine g_iinc (pc' := 109) (v := nI (i + 1)) rfl rfl rfl (nI_1 i) rfl ?_
          refine g_goto (pc' := 31) rfl rfl ?_
          exact ih (i + 1) _ _ _ (by omega) (hS.tr (GS.w (GS.w GS.rf (by decide)) (by decide))) (mr_bad hR hG hB (by rw [← es]; exact w3) (by omega)) (gi_s hG hB hx (by omega)) (by rw [← hr, hdr, tellL, if_pos hB])
  refine g_aload_n (pc' := 1) rfl rfl rfl ?_
  refine g_bipush (pc' := 3) (v := -6) rfl rfl (by decide) ?_
  refine g_puti (pc' := 6) rfl rfl (i_11_18) ?_
  refine g_aload_n (pc' := 7) rfl rfl rfl ?_
  refine g_bipush (pc' := 9) (v := -6) rfl rfl (by decide) ?_
  refine g_puti (pc' := 12) rfl rfl (i_11_19) ?_
  refine g_aload_n (pc' := 13) rfl rfl rfl ?_
  refine g_bipush (pc' := 15) (v := -6) rfl rfl (by decide) ?_
  refine g_puti (pc' := 18) rfl rfl (i_11_20) ?_
  refine g_aload_n (pc' := 19) rfl rfl rfl ?_
  refine g_bipush (pc' := 21) (v := -6) rfl rfl (by decide) ?_
  refine g_puti (pc' := 24) rfl rfl (i_11_21) ?_
  refine g_aload_n (pc' := 25) rfl rfl rfl ?_
  refine g_iconst (pc' := 26) (v := 0) rfl rfl (by decide) ?_
  refine g_puti (pc' := 29) rfl rfl (i_11_16) ?_
  refine g_iconst (pc' := 30) (v := 0) rfl rfl (by decide) ?_
  refine g_istore_n (pc' := 31) rfl rfl rfl ?_
  exact loop l.length 0 _ (T0 (stAt m 53)) _ (by omega) (GS.w (GS.w (GS.w (GS.w (GS.w GS.rf (by decide)) (by decide)) (by decide)) (by decide)) (by decide)) mr_0 (gi_0 hW) rfl
end M5
