/-! DAYS -/
section C7
variable {X : aX} {m : aMem}
theorem br_le (T : aTl) (x : aAct) : (tell1 T x).2.2.2.2.1 ≤ T.2.2.2.2.1 + 1 := by
  obtain ⟨s, ac, bad, wh, br, fa, fn⟩ := T
  unfold tell1
  split
  · unfold noteT upT incT
    dsimp only
    split
    · exact Nat.le_succ _
    · exact Nat.le_refl _
  · exact Nat.le_succ _
theorem c_tell {K : aMem → Prop} {n : Nat} {l : List aAct} (hn : m.1 8 1 = nI n) (h60 : n ≤ 60) (hl : parseA (sg n (m.1 9)) n 60 0 = some l) (h : ∀ m', Fr 10 17 m m' → TR m' (tellL (T0 (stAt m 2)) l) → K m') : gCv X 72 [.ref 10, .ref 8, .ref 2] m K := by
  refine g_inV rfl ?_
  generalize hR0 : tellL (T0 (stAt m 2)) l = Rr at h
  have loop : ∀ (d i : Nat) (m1 : aMem) (q : Nat) (l : List aAct) (Tt : aTl), i + d = 60 → q < 64 → Fr 10 17 m m1 → TR m1 Tt → parseA (sg n (m.1 9)) n d q = some l → tellL Tt l = Rr → Tt.2.2.2.2.1 ≤ i → gG X 72 47 [.ref 10, .ref 8, .ref 2, .int (nI q), .int (nI i)] [] m1 (fun r m' => r = none ∧ K m') := by
    intro d
    induction d with
    | zero =>
      intro i m1 q l Tt hd hq hF hT hp hR hbr
      have hi : i = 60 := by omega
      subst hi
      refine g_iload (pc' := 49) rfl rfl rfl ?_
      refine g_bipush (pc' := 51) (v := 60) rfl rfl (by decide) ?_
      refine g_icmp_ge (pc' := 54) (t := 91) rfl rfl rfl (fun c_51 => ?_) (fun c_51 => absurd (by decide) c_51)
      exact g_return rfl rfl (h m1 hF (by
            cases hp
            rw [← hR]
            exact hT))
    | succ d ih =>
      intro i m1 q l Tt hd hq hF hT hp hR hbr
      have hlt : i < 60 := by omega
      have hn1 : m1.1 8 1 = nI n := by rw [hF.i (by omega)]; exact hn
      have e9 : m1.1 9 = m.1 9 := hF.i (by omega)
      refine g_iload (pc' := 49) rfl rfl rfl ?_
      refine g_bipush (pc' := 51) (v := 60) rfl rfl (by decide) ?_
      refine g_icmp_ge (pc' := 54) (t := 91) rfl rfl rfl (fun c_51 => absurd c_51 (nI_ge (b := 60) hlt (by decide))) (fun c_51 => ?_)
      refine g_iload_n (pc' := 55) rfl rfl rfl ?_
      refine g_aload_n (pc' := 56) rfl rfl rfl ?_
      refine g_geti (pc' := 59) rfl rfl (i_4_1) ?_
      refine g_vi (y := nI n) (hn1) ?_
      refine g_icmp_ge (pc' := 62) (t := 91) rfl rfl rfl (fun c_59 => ?_) (fun c_59 => ?_)
      · exact g_return rfl rfl (h m1 hF (by
              rw [parseA, if_neg (fun z => nI_ge z (by omega) c_59)] at hp
              cases hp
              rw [← hR]
              exact hT))
      · have hqn : q < n := Nat.not_le.mp (fun z => c_59 (nI_le z (by omega)))
        rw [parseA, if_pos hqn] at hp
        by_cases hf : faultAt (sg n (m.1 9)) q = -6
        case neg => rw [if_neg hf] at hp; cases hp
        rw [if_pos hf] at hp
        obtain ⟨l2, hp2, hl2⟩ := Option.map_eq_some_iff.mp hp
        subst hl2
        refine g_aload_n (pc' := 63) rfl rfl rfl ?_
        refine g_geti (pc' := 66) rfl rfl (i_9_2) ?_
        refine g_vi (y := badT Tt) (hT.2.2.1) ?_
        refine g_bipush (pc' := 68) (v := -6) rfl rfl (by decide) ?_
        refine g_icmp_ne (pc' := 71) (t := 91) rfl rfl rfl (fun c_68 => ?_) (fun c_68 => ?_)
        · exact g_return rfl rfl (h m1 hF (by rw [← hR, tellL, if_neg c_68]; exact hT))
        · refine g_aload_n (pc' := 72) rfl rfl rfl ?_
          refine g_aload_n (pc' := 73) rfl rfl rfl ?_
          refine g_iload_n (pc' := 74) rfl rfl rfl ?_
          refine g_callv (pc' := 77) rfl rfl rfl rfl (Or.inr rfl) ?_
          refine c_tellAct hn1 h60 (by omega) hT (by omega) (by rw [e9]; exact hf) (fun m2 f2 t2 => ?_)
          rw [e9] at t2
          have hF2 := hF.tr f2
          have hn2 : m2.1 8 1 = nI n := by rw [hF2.i (by omega)]; exact hn
          have e92 : m2.1 9 = m.1 9 := hF2.i (by omega)
          refine g_iload_n (pc' := 78) rfl rfl rfl ?_
          refine g_aload_n (pc' := 79) rfl rfl rfl ?_
          refine g_iload_n (pc' := 80) rfl rfl rfl ?_
          refine g_calli (pc' := 83) rfl rfl rfl rfl (Or.inr rfl) ?_
          refine c_lengthOfActAt hn2 h60 (by omega) ?_
          rw [e92]
          refine g_iadd (pc' := 84) rfl rfl ?_
          refine g_vi (y := nI (q + lenAt (sg n (m.1 9)) q)) (nI_add _ _) ?_
          refine g_istore_n (pc' := 85) rfl rfl rfl ?_
          refine g_iinc (pc' := 88) (v := nI (i + 1)) rfl rfl rfl (nI_1 i) rfl ?_
          refine g_goto (pc' := 47) rfl rfl ?_
          exact ih (i + 1) m2 _ l2 _ (by omega) (by have := lenAt_le (sg n (m.1 9)) q; omega) hF2 t2 hp2 (by rw [← hR, tellL, if_pos c_68]) (by have := br_le Tt (actAt (sg n (m.1 9)) q); omega)
  refine g_aload_n (pc' := 1) rfl rfl rfl ?_
  refine g_getr (pc' := 4) rfl rfl (f_9_0) ?_
  refine g_aload_n (pc' := 5) rfl rfl rfl ?_
  refine g_callv (pc' := 8) rfl rfl rfl rfl (Or.inr (rc_S isS_11)) ?_
  refine c_copyFrom isS_11 isS_2 (by decide) (fun m1 f1 e1 => ?_)
  refine g_aload_n (pc' := 9) rfl rfl rfl ?_
  refine g_iconst (pc' := 10) (v := 0) rfl rfl (by decide) ?_
  refine g_puti (pc' := 13) rfl rfl (i_9_1) ?_
  refine g_aload_n (pc' := 14) rfl rfl rfl ?_
  refine g_bipush (pc' := 16) (v := -6) rfl rfl (by decide) ?_
  refine g_puti (pc' := 19) rfl rfl (i_9_2) ?_
  refine g_aload_n (pc' := 20) rfl rfl rfl ?_
  refine g_bipush (pc' := 22) (v := -6) rfl rfl (by decide) ?_
  refine g_puti (pc' := 25) rfl rfl (i_9_3) ?_
  refine g_aload_n (pc' := 26) rfl rfl rfl ?_
  refine g_iconst (pc' := 27) (v := 0) rfl rfl (by decide) ?_
  refine g_puti (pc' := 30) rfl rfl (i_9_4) ?_
  refine g_aload_n (pc' := 31) rfl rfl rfl ?_
  refine g_bipush (pc' := 33) (v := -6) rfl rfl (by decide) ?_
  refine g_puti (pc' := 36) rfl rfl (i_9_5) ?_
  refine g_aload_n (pc' := 37) rfl rfl rfl ?_
  refine g_bipush (pc' := 39) (v := -6) rfl rfl (by decide) ?_
  refine g_puti (pc' := 42) rfl rfl (i_9_6) ?_
  refine g_iconst (pc' := 43) (v := 0) rfl rfl (by decide) ?_
  refine g_istore_n (pc' := 44) rfl rfl rfl ?_
  refine g_iconst (pc' := 45) (v := 0) rfl rfl (by decide) ?_
  refine g_istore (pc' := 47) rfl rfl rfl ?_
  refine loop 60 0 _ 0 l (T0 (stAt m 2)) rfl (by decide) ((((((f1.wide (by decide) (by decide)).s (by omega) (by omega)).s (by omega) (by omega)).s (by omega) (by omega)).s (by omega) (by omega)).s (by omega) (by omega) |>.s (by omega) (by omega)) ?_ hl hR0 (Nat.le_refl _)
  refine ⟨?_, ?_, ?_, ?_, ?_, ?_, ?_⟩
  · rw [st_wx (Or.inl (by decide)), st_wx (Or.inl (by decide)), st_wx (Or.inl (by decide)), st_wx (Or.inl (by decide)), st_wx (Or.inl (by decide)), st_wx (Or.inl (by decide))]
    exact e1
  all_goals (simp only [am_wi_s, upd]; rfl)
def dayT (m : aMem) (n : Nat) : Option aTl := (parseA (sg n (m.1 9)) n 60 0).map (tellL (T0 (stAt m 2)))
theorem dayT_none {n : Nat} (h : dayT m n = none) : ¬ findF (sg n (m.1 9)) n 60 0 = -6 := (parse_none _ _).mp (Option.map_eq_none_iff.mp h)
theorem dayT_some {n : Nat} {Tt : aTl} (h : dayT m n = some Tt) : findF (sg n (m.1 9)) n 60 0 = -6 ∧ ∃ l, parseA (sg n (m.1 9)) n 60 0 = some l ∧ tellL (T0 (stAt m 2)) l = Tt := by
  obtain ⟨l, h1, h2⟩ := Option.map_eq_some_iff.mp h
  refine ⟨Classical.byContradiction (fun z => ?_), l, h1, h2⟩
  have := (parse_none _ _).mpr z
  rw [h1] at this
  cases this
theorem c_tellDays {K : Int32 → aMem → Prop} {n : Nat} (hn : m.1 8 1 = nI n) (h60 : n ≤ 60) (h0 : dayT m n = none → K (-5) m) (h1 : ∀ Tt m', dayT m n = some Tt → Fr 10 17 m m' → TR m' Tt → K (if badT Tt = -6 then 0 else -3) m') : gCi X 86 [.ref 1] m K := by
  refine g_inI rfl ?_
  refine g_aload_n (pc' := 1) rfl rfl rfl ?_
  refine g_getr (pc' := 4) rfl rfl (f_10_1) ?_
  refine g_calli (pc' := 7) rfl rfl rfl rfl (Or.inr rfl) ?_
  refine c_findFault hn h60 ?_
  refine g_bipush (pc' := 9) (v := -6) rfl rfl (by decide) ?_
  refine g_icmp_eq (pc' := 12) (t := 15) rfl rfl rfl (fun c_9 => ?_) (fun c_9 => ?_)
  · cases hd : dayT m n with
    | none => exact absurd c_9 (dayT_none hd)
    | some Tt =>
    obtain ⟨-, l, hl, hT⟩ := dayT_some hd
    refine g_aload_n (pc' := 16) rfl rfl rfl ?_
    refine g_getr (pc' := 19) rfl rfl (f_10_2) ?_
    refine g_aload_n (pc' := 20) rfl rfl rfl ?_
    refine g_getr (pc' := 23) rfl rfl (f_10_1) ?_
    refine g_aload_n (pc' := 24) rfl rfl rfl ?_
    refine g_getr (pc' := 27) rfl rfl (f_10_0) ?_
    refine g_callv (pc' := 30) rfl rfl rfl rfl (Or.inr rfl) ?_
    refine c_tell hn h60 hl (fun m1 f1 t1 => ?_)
    rw [hT] at t1
    refine g_aload_n (pc' := 31) rfl rfl rfl ?_
    refine g_getr (pc' := 34) rfl rfl (f_10_2) ?_
    refine g_geti (pc' := 37) rfl rfl (i_9_2) ?_
    refine g_vi (y := badT Tt) (t1.2.2.1) ?_
    refine g_bipush (pc' := 39) (v := -6) rfl rfl (by decide) ?_
    refine g_icmp_ne (pc' := 42) (t := 46) rfl rfl rfl (fun c_39 => ?_) (fun c_39 => ?_)
    · refine g_bipush (pc' := 48) (v := -3) rfl rfl (by decide) ?_
      exact g_ireturn rfl rfl (g_eq (h1 Tt m1 hd f1 t1) (by rw [if_neg c_39]) rfl)
    · refine g_iconst (pc' := 43) (v := 0) rfl rfl (by decide) ?_
      refine g_goto (pc' := 48) rfl rfl ?_
      exact g_ireturn rfl rfl (g_eq (h1 Tt m1 hd f1 t1) (by rw [if_pos c_39]) rfl)
  · refine g_bipush (pc' := 14) (v := -5) rfl rfl (by decide) ?_
    exact g_ireturn rfl rfl (h0 (by
        cases hd : dayT m n with
        | none => rfl
        | some Tt => exact absurd (dayT_some hd).1 c_9))
end C7
