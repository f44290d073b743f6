/-! ROUNDS: the class, the rest -/
section R3
variable {X : aX} {m : aMem} {A : aA} {K : Int32 → aMem → Prop}
theorem fw_8 {s : aStr} {x c0 : Nat} (h : c0 < 3) : ∀ n, n ≤ 1024 → ∀ T, T < 1024 → (fN (fwS s x) n (f0 c0, 0)).1 T < 8 := by
  intro n hn T hT
  rw [(fw_inv s x c0 n hn).1 T hT]
  unfold Gi
  split
  · exact p_8 h
  · unfold orF
    exact fN_lt (fun o a ha => or_8 ha (by unfold tm; split; exact stepN_lt _ _; decide)) 10 0 (by decide)
theorem c_mostBroken {s : aStr} {x c0 Mx : Nat} (hs : stAt m 2 = s) (hx : x < 10) (hc0 : c0 < 3) (hc : sC (stAt m 2) x = nI c0) (hW : WFs Mx s) (h : ∀ m', Fr 18 20 m m' → K (nI (moN (tD s x c0) 1024)) m') : gCi X 35 [.ref 17, .ref 2, .int (nI x)] m K := by
  refine g_inI rfl ?_
  have loop : ∀ (d i : Nat) (m2 : aMem) (v4 : Value), i + d = 10 → Fr 18 20 m m2 → (∀ o, o < i → AF m2 s x o) → gG X 35 2 [.ref 17, .ref 2, .int (nI x), .int (nI i), v4] [] m2 (fun r m' => ∃ v, r = some (.int v) ∧ K v m') := by
    intro d
    induction d with
    | zero =>
      intro i m2 v4 hd hF2 hA2
      have hi : i = 10 := by omega
      subst hi
      refine g_iload_n (pc' := 3) rfl rfl rfl ?_
      refine g_bipush (pc' := 5) (v := 10) rfl rfl (by decide) ?_
      refine g_icmp_ge (pc' := 8) (t := 21) rfl rfl rfl (fun c_5 => ?_) (fun c_5 => absurd (by decide) c_5)
      refine g_iconst (pc' := 22) (v := 0) rfl rfl (by decide) ?_
      refine g_istore_n (pc' := 23) rfl rfl rfl ?_
      have loop2 : ∀ (d i : Nat) (m1 : aMem) (v4 : Value), i + d = 1024 → Fr 18 20 m m1 → m1.1 19 = m2.1 19 → (∀ T, T < i → m1.1 18 T = 0) → gG X 35 23 [.ref 17, .ref 2, .int (nI x), .int (nI i), v4] [] m1 (fun r m' => ∃ v, r = some (.int v) ∧ K v m') := by
        intro d
        induction d with
        | zero =>
          intro i m1 v4 hd hF h19 hz
          have hi : i = 1024 := by omega
          subst hi
          refine g_iload_n (pc' := 24) rfl rfl rfl ?_
          refine g_sipush (pc' := 27) (v := 1024) rfl rfl (by decide) ?_
          refine g_icmp_ge (pc' := 30) (t := 43) rfl rfl rfl (fun c_27 => ?_) (fun c_27 => absurd (by decide) c_27)
          refine g_aload_n (pc' := 44) rfl rfl rfl ?_
          refine g_getr (pc' := 47) rfl rfl (f_5_0) ?_
          refine g_iconst (pc' := 48) (v := 0) rfl rfl (by decide) ?_
          refine g_iconst (pc' := 49) (v := 1) rfl rfl (by decide) ?_
          refine g_aload_n (pc' := 50) rfl rfl rfl ?_
          refine g_getr (pc' := 53) rfl rfl (f_8_1 isS_2) ?_
          refine g_iload_n (pc' := 54) rfl rfl rfl ?_
          refine g_iald (pc' := 55) rfl rfl (a_S2 isS_2) hx rfl ?_
          refine g_vi (y := nI c0) (by rw [st_C (p := 2) hx, hF.st (p := 2) (by omega)]; exact hc) ?_
          refine g_ishl (pc' := 56) rfl rfl ?_
          refine g_vi (y := nI (2 ^ c0)) (bit_nI (by omega)) ?_
          refine g_iast (pc' := 57) rfl rfl (a_18) (k := 0) (by decide) rfl ?_
          refine g_mem (fun m3 hm3 => ?_)
          have f3 : Fr 18 20 m m3 := by rw [hm3]; exact hF.s (by omega) (by omega)
          have hA : ∀ o, o < 10 → AF m3 s x o := fun o ho c hc => by
            rw [hm3]
            show am_wi m1.1 18 0 (nI (2 ^ c0)) 19 (3 * o + c) = _
            rw [am_wi_n (by decide), h19]
            exact hA2 o ho c hc
          have r3 : RC m3 (f0 c0) := fun T hT => by
            rw [hm3]
            unfold f0
            show am_wi m1.1 18 0 (nI (2 ^ c0)) 18 T = _ ∧ _
            rw [am_wi_s]
            by_cases e : T = 0
            · subst e; rw [upd_at, if_pos rfl]; exact ⟨rfl, p_8 hc0⟩
            · rw [upd_ne e, if_neg e]; exact ⟨hz T hT, by decide⟩
          refine g_iconst (pc' := 58) (v := 0) rfl rfl (by decide) ?_
          refine g_istore_n (pc' := 59) rfl rfl rfl ?_
          refine g_iconst (pc' := 60) (v := 0) rfl rfl (by decide) ?_
          refine g_istore (pc' := 62) rfl rfl rfl ?_
          have loop3 : ∀ (d i : Nat) (m1 : aMem), i + d = 1024 → Fr 18 19 m3 m1 → RC m1 (fN (fwS s x) i (f0 c0, 0)).1 → gG X 35 62 [.ref 17, .ref 2, .int (nI x), .int (nI (fN (fwS s x) i (f0 c0, 0)).2), .int (nI i)] [] m1 (fun r m' => ∃ v, r = some (.int v) ∧ K v m') := by
            intro d
            induction d with
            | zero =>
              intro i m1 hd hF hR
              have hi : i = 1024 := by omega
              subst hi
              refine g_iload (pc' := 64) rfl rfl rfl ?_
              refine g_sipush (pc' := 67) (v := 1024) rfl rfl (by decide) ?_
              refine g_icmp_ge (pc' := 70) (t := 107) rfl rfl rfl (fun c_67 => ?_) (fun c_67 => absurd (by decide) c_67)
              refine g_iload_n (pc' := 108) rfl rfl rfl ?_
              exact g_ireturn rfl rfl (g_eq (h m1 (f3.tr (hF.wide (by decide) (by decide)))) (by rw [(fw_inv s x c0 1024 (Nat.le_refl _)).2]) rfl)
            | succ d ih =>
              intro i m1 hd hF hR
              have hlt : i < 1024 := by omega
              refine g_iload (pc' := 64) rfl rfl rfl ?_
              refine g_sipush (pc' := 67) (v := 1024) rfl rfl (by decide) ?_
              refine g_icmp_ge (pc' := 70) (t := 107) rfl rfl rfl (fun c_67 => absurd c_67 (nI_ge (b := 1024) hlt (by decide))) (fun c_67 => ?_)
              refine g_aload_n (pc' := 71) rfl rfl rfl ?_
              refine g_getr (pc' := 74) rfl rfl (f_5_0) ?_
              refine g_iload (pc' := 76) rfl rfl rfl ?_
              refine g_iald (pc' := 77) rfl rfl (a_18) hlt rfl ?_
              refine g_vi (y := nI ((fN (fwS s x) i (f0 c0, 0)).1 i)) ((hR i hlt).1) ?_
              have h8 := (hR i hlt).2
              have hml : (fN (fwS s x) i (f0 c0, 0)).2 < 1024 := by rw [(fw_inv s x c0 i (by omega)).2]; exact moN_lt i (by omega)
              refine g_if_eq (pc' := 80) (t := 101) rfl rfl rfl (fun c_77 => ?_) (fun c_77 => ?_)
              · refine g_iinc (pc' := 104) (v := nI (i + 1)) rfl rfl rfl (nI_1 i) rfl ?_
                refine g_goto (pc' := 62) rfl rfl ?_
                have e : fN (fwS s x) (i + 1) (f0 c0, 0) = fN (fwS s x) i (f0 c0, 0) := by rw [fN, fwS]; rw [if_neg (fun z => z ((nI_eq (b := 0) (by omega) (by decide)).mp c_77))]
                have hh := ih (i + 1) m1 (by omega) hF (by rw [e]; exact hR)
                rw [e] at hh
                exact hh
              · refine g_iload (pc' := 82) rfl rfl rfl ?_
                refine g_calli (pc' := 85) rfl rfl rfl rfl (Or.inl rfl) ?_
                refine c_bc hlt ?_
                refine g_iload_n (pc' := 86) rfl rfl rfl ?_
                refine g_calli (pc' := 89) rfl rfl rfl rfl (Or.inl rfl) ?_
                refine c_bc hml ?_
                have hp1 := pcF_le 10 i
                have hp2 := pcF_le 10 (fN (fwS s x) i (f0 c0, 0)).2
                refine g_icmp_le (pc' := 92) (t := 95) rfl rfl rfl (fun c_89 => ?_) (fun c_89 => ?_)
                · refine g_aload_n (pc' := 96) rfl rfl rfl ?_
                  refine g_iload (pc' := 98) rfl rfl rfl ?_
                  refine g_callv (pc' := 101) rfl rfl rfl rfl (Or.inr rfl) ?_
                  refine c_spreadFrom (s := s) (x := x) (Mx := Mx) (f := (fN (fwS s x) i (f0 c0, 0)).1) hlt (fun o ho c hc => by rw [hF.i (q := 19) (by omega)]; exact hA o ho c hc) hW hR (fun m5 f5 r5 => ?_)
                  refine g_iinc (pc' := 104) (v := nI (i + 1)) rfl rfl rfl (nI_1 i) rfl ?_
                  refine g_goto (pc' := 62) rfl rfl ?_
                  have e : fN (fwS s x) (i + 1) (f0 c0, 0) = (fN (spS s x i) 10 (fN (fwS s x) i (f0 c0, 0)).1, (fN (fwS s x) i (f0 c0, 0)).2) := by rw [fN, fwS]; rw [if_pos (fun z => c_77 (by rw [z]; rfl)), if_neg (fun z => nI_ge z (by unfold pcN; omega) c_89)]
                  have hh := ih (i + 1) m5 (by omega) (hF.tr f5) (by rw [e]; exact r5)
                  rw [e] at hh
                  exact hh
                · refine g_iload (pc' := 94) rfl rfl rfl ?_
                  refine g_istore_n (pc' := 95) rfl rfl rfl ?_
                  refine g_aload_n (pc' := 96) rfl rfl rfl ?_
                  refine g_iload (pc' := 98) rfl rfl rfl ?_
                  refine g_callv (pc' := 101) rfl rfl rfl rfl (Or.inr rfl) ?_
                  refine c_spreadFrom (s := s) (x := x) (Mx := Mx) (f := (fN (fwS s x) i (f0 c0, 0)).1) hlt (fun o ho c hc => by rw [hF.i (q := 19) (by omega)]; exact hA o ho c hc) hW hR (fun m5 f5 r5 => ?_)
                  refine g_iinc (pc' := 104) (v := nI (i + 1)) rfl rfl rfl (nI_1 i) rfl ?_
                  refine g_goto (pc' := 62) rfl rfl ?_
                  have e : fN (fwS s x) (i + 1) (f0 c0, 0) = (fN (spS s x i) 10 (fN (fwS s x) i (f0 c0, 0)).1, i) := by rw [fN, fwS]; rw [if_pos (fun z => c_77 (by rw [z]; rfl)), if_pos (Nat.not_le.mp (fun z => c_89 (nI_le z (by unfold pcN; omega))))]
                  have hh := ih (i + 1) m5 (by omega) (hF.tr f5) (by rw [e]; exact r5)
                  rw [e] at hh
                  exact hh
          exact loop3 1024 0 m3 rfl Fr.rf r3
        | succ d ih =>
          intro i m1 v4 hd hF h19 hz
          have hlt : i < 1024 := by omega
          refine g_iload_n (pc' := 24) rfl rfl rfl ?_
          refine g_sipush (pc' := 27) (v := 1024) rfl rfl (by decide) ?_
          refine g_icmp_ge (pc' := 30) (t := 43) rfl rfl rfl (fun c_27 => absurd c_27 (nI_ge (b := 1024) hlt (by decide))) (fun c_27 => ?_)
          refine g_aload_n (pc' := 31) rfl rfl rfl ?_
          refine g_getr (pc' := 34) rfl rfl (f_5_0) ?_
          refine g_iload_n (pc' := 35) rfl rfl rfl ?_
          refine g_iconst (pc' := 36) (v := 0) rfl rfl (by decide) ?_
          refine g_iast (pc' := 37) rfl rfl (a_18) hlt rfl ?_
          refine g_iinc (pc' := 40) (v := nI (i + 1)) rfl rfl rfl (nI_1 i) rfl ?_
          refine g_goto (pc' := 23) rfl rfl ?_
          exact ih (i + 1) _ _ (by omega) (hF.s (by omega) (by omega)) (by show am_wi m1.1 18 i 0 19 = _; rw [am_wi_n (by decide)]; exact h19) (fun T hT => by
            show am_wi m1.1 18 i 0 18 T = _
            rw [am_wi_s]
            by_cases e : T = i
            · subst e; rw [upd_at]
            · rw [upd_ne e]; exact hz T (by omega))
      exact loop2 1024 0 m2 _ rfl hF2 rfl (fun T hT => absurd hT (by omega))
    | succ d ih =>
      intro i m2 v4 hd hF2 hA2
      have hlt : i < 10 := by omega
      refine g_iload_n (pc' := 3) rfl rfl rfl ?_
      refine g_bipush (pc' := 5) (v := 10) rfl rfl (by decide) ?_
      refine g_icmp_ge (pc' := 8) (t := 21) rfl rfl rfl (fun c_5 => absurd c_5 (nI_ge (b := 10) hlt (by decide))) (fun c_5 => ?_)
      refine g_aload_n (pc' := 9) rfl rfl rfl ?_
      refine g_aload_n (pc' := 10) rfl rfl rfl ?_
      refine g_iload_n (pc' := 11) rfl rfl rfl ?_
      refine g_iload_n (pc' := 12) rfl rfl rfl ?_
      refine g_callv (pc' := 15) rfl rfl rfl rfl (Or.inr rfl) ?_
      refine c_tryFights (Mx := Mx) hx hlt (by rw [hF2.st (p := 2) (by omega), hs]; exact hW) (fun m5 f5 a5 k5 => ?_)
      refine g_iinc (pc' := 18) (v := nI (i + 1)) rfl rfl rfl (nI_1 i) rfl ?_
      refine g_goto (pc' := 2) rfl rfl ?_
      exact ih (i + 1) m5 _ (by omega) (hF2.tr (f5.wide (by decide) (by decide))) (fun o ho => by
        by_cases e : o = i
        · subst e; rw [hF2.st (p := 2) (by omega), hs] at a5; exact a5
        · intro c hc3; rw [k5 _ (by omega)]; exact hA2 o (by omega) c hc3)
  refine g_iconst (pc' := 1) (v := 0) rfl rfl (by decide) ?_
  refine g_istore_n (pc' := 2) rfl rfl rfl ?_
  exact loop 10 0 m _ rfl Fr.rf (fun o ho => absurd ho (by omega))
theorem c_round {x w : Int32} (hC : CI m A) {Mx : Nat} (hW : WFs Mx (aS A)) (h : ∀ m', Fr 1 53 m m' → CI m' (r_round A x w).2 → K (r_round A x w).1 m') : gCi X 88 [.ref 1, .int x, .int w] m K := by
  refine g_inI rfl ?_
  have es := hC.1
  refine g_iload_n (pc' := 1) rfl rfl rfl ?_
  refine g_calli (pc' := 4) rfl rfl rfl rfl (Or.inl rfl) ?_
  refine c_isNut (fun k hk ek => ?_) (fun x0 => ?_)
  · refine g_if_ne (pc' := 7) (t := 9) rfl rfl rfl (fun _ => ?_) (fun c => absurd c (by decide))
    refine g_iload_n (pc' := 10) rfl rfl rfl ?_
    refine g_iconst (pc' := 11) (v := 0) rfl rfl (by decide) ?_
    refine g_iconst (pc' := 12) (v := 1) rfl rfl (by decide) ?_
    refine g_calli (pc' := 15) rfl rfl rfl rfl (Or.inl rfl) ?_
    refine c_isWithin (fun u1 u2 => ?_) (fun u0 => ?_)
    · refine g_if_ne (pc' := 18) (t := 21) rfl rfl rfl (fun _ => ?_) (fun c => absurd c (by decide))
      refine g_aload_n (pc' := 22) rfl rfl rfl ?_
      refine g_getr (pc' := 25) rfl rfl (f_10_0) ?_
      refine g_iload_n (pc' := 26) rfl rfl rfl ?_
      refine g_calli (pc' := 29) rfl rfl rfl rfl (Or.inr (rc_S isS_2)) ?_
      refine (ek ▸ c_isBroken isS_2 hk (fun q => ?_) (fun q => ?_))
      · refine g_if_eq (pc' := 32) (t := 35) rfl rfl rfl (fun c => absurd c (by decide)) (fun _ => ?_)
        refine g_bipush (pc' := 34) (v := -6) rfl rfl (by decide) ?_
        exact g_ireturn rfl rfl (cf h (by unfold r_round; rw [if_neg (nn (by rw [ek]; exact rn_9 hk)), if_neg (nn ⟨u1, u2⟩), if_pos (by rw [ek, ix_nI (by omega), ← es]; exact q)]) Fr.rf hC)
      · refine g_if_eq (pc' := 32) (t := 35) rfl rfl rfl (fun _ => ?_) (fun c => absurd c (by decide))
        rw [es] at q
        obtain ⟨c0, hc0, ec0⟩ := hW.live hk q
        have er : r_round A x w = (if w = 0 then nI (pcN (moN (tD (aS A) k c0) 1024)) else nI (moN (tD (aS A) k c0) 1024), A) := by unfold r_round; rw [if_neg (nn (by rw [ek]; exact rn_9 hk)), if_neg (nn ⟨u1, u2⟩), ek, ix_nI (by omega), if_neg q, ec0, ix_nI (by omega)]
        subst ek
        refine g_aload_n (pc' := 36) rfl rfl rfl ?_
        refine g_getr (pc' := 39) rfl rfl (f_10_4) ?_
        refine g_aload_n (pc' := 40) rfl rfl rfl ?_
        refine g_getr (pc' := 43) rfl rfl (f_10_0) ?_
        refine g_iload_n (pc' := 44) rfl rfl rfl ?_
        refine g_calli (pc' := 47) rfl rfl rfl rfl (Or.inr rfl) ?_
        refine c_mostBroken es hk hc0 (by rw [es]; exact ec0) hW (fun m1 f1 => ?_)
        refine g_istore_n (pc' := 48) rfl rfl rfl ?_
        refine g_iload_n (pc' := 49) rfl rfl rfl ?_
        refine g_if_ne (pc' := 52) (t := 59) rfl rfl rfl (fun c_49 => ?_) (fun c_49 => ?_)
        · refine g_iload_n (pc' := 60) rfl rfl rfl ?_
          exact g_ireturn rfl rfl (g_eq (cf h er (f1.wide (by decide) (by decide)) (hC.fr f1 (by omega))) (by rw [if_neg c_49]) rfl)
        · refine g_iload_n (pc' := 53) rfl rfl rfl ?_
          refine g_calli (pc' := 56) rfl rfl rfl rfl (Or.inl rfl) ?_
          refine c_bc (moN_lt _ (Nat.le_refl _)) ?_
          refine g_goto (pc' := 60) rfl rfl ?_
          exact g_ireturn rfl rfl (g_eq (cf h er (f1.wide (by decide) (by decide)) (hC.fr f1 (by omega))) (by rw [if_pos c_49]) rfl)
    · refine g_if_ne (pc' := 18) (t := 21) rfl rfl rfl (fun c => absurd c (by decide)) (fun _ => ?_)
      refine g_bipush (pc' := 20) (v := -2) rfl rfl (by decide) ?_
      exact g_ireturn rfl rfl (cf h (by unfold r_round; rw [if_neg (nn (by rw [ek]; exact rn_9 hk)), if_pos u0]) Fr.rf hC)
  · refine g_if_ne (pc' := 7) (t := 9) rfl rfl rfl (fun c => absurd c (by decide)) (fun _ => ?_)
    refine g_iconst (pc' := 8) (v := -1) rfl rfl (by decide) ?_
    exact g_ireturn rfl rfl (cf h (by unfold r_round; rw [if_pos x0]) Fr.rf hC)
end R3
