/-! ASK: the model -/
def AH (m : aMem) (T : aSg) (g : Nat) : Prop := ∀ k, k < 25 → m.1 69 k = nI (tq T (k / 5) (k % 5) g)
def AI (m : aMem) (T : aSg) (g k0 : Nat) : Prop := ∀ k, k < 25 → (k < k0 → m.1 69 k = nI (tq T (k / 5) (k % 5) (g + 1))) ∧ (¬ k < k0 → m.1 69 k = nI (tq T (k / 5) (k % 5) g))
theorem AI.w {m : aMem} {T : aSg} {g k v : Nat} (h : AI m T g k) (e : tq T (k / 5) (k % 5) (g + 1) = v) : AI (am_wi m.1 69 k (nI v), m.2) T g (k + 1) := fun k1 h1 => by
  show (_ → am_wi m.1 69 k (nI v) 69 k1 = _) ∧ (_ → am_wi m.1 69 k (nI v) 69 k1 = _)
  rw [am_wi_s]
  by_cases z : k1 = k
  · subst z
    rw [upd_at, e]
    exact ⟨fun _ => rfl, fun w => absurd (Nat.lt_succ_self _) w⟩
  · rw [upd_ne z]
    have := h k1 h1
    exact ⟨fun w => this.1 (by omega), fun w => this.2 (by omega)⟩
section O4
variable {X : aX} {m : aMem} {A : aA} {K : Int32 → aMem → Prop}
theorem Fr.ah {lo hi g : Nat} {T : aSg} {m' : aMem} (f : Fr lo hi m m') (hq : 69 < lo ∨ hi ≤ 69) (h : AH m T g) : AH m' T g := fun k hk => by rw [f.1 69 hq]; exact h k hk
theorem d_ahead {K : aMem → Prop} {T : aSg} (hT : sgM m = T) (hW : WT T) (h : ∀ m', Fr 68 70 m m' → AH m' T 120 → K m') : gCv X 159 [.ref 53] m K := by
  refine g_inV rfl ?_
  have loop : ∀ (d i : Nat) (m1 : aMem) (v2 : Value), i + d = 25 → Fr 68 70 m m1 → (∀ k, k < i → m1.1 69 k = 0) → gG X 159 2 [.ref 53, .int (nI i), v2] [] m1 (fun r m' => r = none ∧ K m') := by
    intro d
    induction d with
    | zero =>
      intro i m1 v2 hd hF hz
      have hi : i = 25 := by omega
      subst hi
      refine g_iload_n (pc' := 3) rfl rfl rfl ?_
      refine g_bipush (pc' := 5) (v := 25) rfl rfl (by decide) ?_
      refine g_icmp_ge (pc' := 8) (t := 21) rfl rfl rfl (fun c_5 => ?_) (fun c_5 => absurd (by decide) c_5)
      refine g_iconst (pc' := 22) (v := 0) rfl rfl (by decide) ?_
      refine g_istore_n (pc' := 23) rfl rfl rfl ?_
      have loop2 : ∀ (d i : Nat) (m1 : aMem) (g : Nat) (v2 : Value), i + d = 3125 → Fr 68 70 m m1 → At i g → AH m1 T g → gG X 159 23 [.ref 53, .int (nI i), v2] [] m1 (fun r m' => r = none ∧ K m') := by
        intro d
        induction d with
        | zero =>
          intro i m1 g v2 hd hF hA hH
          have hi : i = 3125 := by omega
          subst hi
          refine g_iload_n (pc' := 24) rfl rfl rfl ?_
          refine g_sipush (pc' := 27) (v := 3125) rfl rfl (by decide) ?_
          refine g_icmp_ge (pc' := 30) (t := 91) rfl rfl rfl (fun c_27 => ?_) (fun c_27 => absurd (by decide) c_27)
          have eg := at_e hA
          subst eg
          exact g_return rfl rfl (h m1 hF hH)
        | succ d ih =>
          intro i m1 g v2 hd hF hA hH
          have hlt : i < 3125 := by omega
          refine g_iload_n (pc' := 24) rfl rfl rfl ?_
          refine g_sipush (pc' := 27) (v := 3125) rfl rfl (by decide) ?_
          refine g_icmp_ge (pc' := 30) (t := 91) rfl rfl rfl (fun c_27 => absurd c_27 (nI_ge (b := 3125) hlt (by decide))) (fun c_27 => ?_)
          refine g_aload_n (pc' := 31) rfl rfl rfl ?_
          refine g_iload_n (pc' := 32) rfl rfl rfl ?_
          refine g_calli (pc' := 35) rfl rfl rfl rfl (Or.inr rfl) ?_
          refine d_isFit hlt (hF.sm.trans hT) hW (fun m2 j f2 hj ej q p2 => ?_) (fun m2 f2 hq => ?_)
          · refine g_if_eq (pc' := 38) (t := 85) rfl rfl rfl (fun c => absurd c (by decide)) (fun _ => ?_)
            obtain ⟨hg, eg, hA2⟩ := at_o hA hlt (ej ▸ (o_6 j hj).1)
            have e : g = j := pm_inj hg hj (eg.trans ej.symm)
            subst e
            have h2 := f2.ah (by omega) hH
            refine g_iconst (pc' := 39) (v := 0) rfl rfl (by decide) ?_
            refine g_istore_n (pc' := 40) rfl rfl rfl ?_
            have loopk : ∀ (dk k : Nat) (m3 : aMem), k + dk = 25 → Fr 69 70 m2 m3 → AI m3 T g k → gG X 159 40 [.ref 53, .int (nI i), .int (nI k)] [] m3 (fun r m' => r = none ∧ K m') := by
              intro dk
              induction dk with
              | zero =>
                intro k m3 hdk hF3 hI
                have hi : k = 25 := by omega
                subst hi
                refine g_iload_n (pc' := 41) rfl rfl rfl ?_
                refine g_bipush (pc' := 43) (v := 25) rfl rfl (by decide) ?_
                refine g_icmp_ge (pc' := 46) (t := 85) rfl rfl rfl (fun c_43 => ?_) (fun c_43 => absurd (by decide) c_43)
                refine g_iinc (pc' := 88) (v := nI (i + 1)) rfl rfl rfl (nI_1 i) rfl ?_
                refine g_goto (pc' := 23) rfl rfl ?_
                exact ih (i + 1) m3 (g + 1) _ (by omega) ((hF.tr (f2.wide (by decide) (by decide))).tr (hF3.wide (by decide) (by decide))) hA2 (fun k hk => (hI k hk).1 hk)
              | succ dk ihk =>
                intro k m3 hdk hF3 hI
                have hlk : k < 25 := by omega
                refine g_iload_n (pc' := 41) rfl rfl rfl ?_
                refine g_bipush (pc' := 43) (v := 25) rfl rfl (by decide) ?_
                refine g_icmp_ge (pc' := 46) (t := 85) rfl rfl rfl (fun c_43 => absurd c_43 (nI_ge (b := 25) hlk (by decide))) (fun c_43 => ?_)
                refine g_aload_n (pc' := 47) rfl rfl rfl ?_
                refine g_getr (pc' := 50) rfl rfl (f_11_28) ?_
                refine g_iload_n (pc' := 51) rfl rfl rfl ?_
                refine g_dup2 (pc' := 52) rfl rfl ?_
                refine g_iald (pc' := 53) rfl rfl (a_69) (k := k) hlk rfl ?_
                refine g_vi (y := nI (tq T (k / 5) (k % 5) g)) ((hI k hlk).2 (by omega)) ?_
                refine g_aload_n (pc' := 54) rfl rfl rfl ?_
                refine g_getr (pc' := 57) rfl rfl (f_11_27) ?_
                refine g_iload_n (pc' := 58) rfl rfl rfl ?_
                refine g_iconst (pc' := 59) (v := 5) rfl rfl (by decide) ?_
                refine g_idiv (pc' := 60) rfl rfl (by decide) ?_
                refine g_vi (y := nI (k / 5)) (i_div (d := 5) (by omega) (by decide) (by decide)) ?_
                refine g_iald (pc' := 61) rfl rfl (a_68) (k := k / 5) (by omega) rfl ?_
                refine g_vi (y := nI (plO g (k / 5))) (hF3.pl (by omega) p2 (k / 5) (by omega)) ?_
                refine g_aload_n (pc' := 62) rfl rfl rfl ?_
                refine g_getr (pc' := 65) rfl rfl (f_11_27) ?_
                refine g_iload_n (pc' := 66) rfl rfl rfl ?_
                refine g_iconst (pc' := 67) (v := 5) rfl rfl (by decide) ?_
                refine g_irem (pc' := 68) rfl rfl (by decide) ?_
                refine g_vi (y := nI (k % 5)) (i_rem (d := 5) (by omega) (by decide) (by decide)) ?_
                refine g_iald (pc' := 69) rfl rfl (a_68) (k := k % 5) (by omega) rfl ?_
                refine g_vi (y := nI (plO g (k % 5))) (hF3.pl (by omega) p2 (k % 5) (by omega)) ?_
                have p3 := (o_2 g hg (k / 5) (by omega)).2
                have p4 := (o_2 g hg (k % 5) (by omega)).2
                refine g_icmp_ge (pc' := 72) (t := 76) rfl rfl rfl (fun c_69 => ?_) (fun c_69 => ?_)
                · refine g_iconst (pc' := 77) (v := 0) rfl rfl (by decide) ?_
                  refine g_iadd (pc' := 78) rfl rfl ?_
                  refine g_vi (y := nI (tq T (k / 5) (k % 5) g)) (i_add0 _) ?_
                  refine g_iast (pc' := 79) rfl rfl (a_69) (k := k) hlk rfl ?_
                  refine g_iinc (pc' := 82) (v := nI (k + 1)) rfl rfl rfl (nI_1 k) rfl ?_
                  refine g_goto (pc' := 40) rfl rfl ?_
                  exact ihk (k + 1) _ (by omega) (hF3.s (by omega) (by omega)) (hI.w (tq_q (Nat.not_lt.mpr ((nI_leI (by omega) (by omega)).mp c_69))))
                · refine g_iconst (pc' := 73) (v := 1) rfl rfl (by decide) ?_
                  refine g_goto (pc' := 77) rfl rfl ?_
                  refine g_iadd (pc' := 78) rfl rfl ?_
                  refine g_vi (y := nI (tq T (k / 5) (k % 5) g + 1)) (nI_1 _) ?_
                  refine g_iast (pc' := 79) rfl rfl (a_69) (k := k) hlk rfl ?_
                  refine g_iinc (pc' := 82) (v := nI (k + 1)) rfl rfl rfl (nI_1 k) rfl ?_
                  refine g_goto (pc' := 40) rfl rfl ?_
                  exact ihk (k + 1) _ (by omega) (hF3.s (by omega) (by omega)) (hI.w (tq_p q (Nat.not_le.mp (fun z => c_69 (nI_le z (by omega))))))
            exact loopk 25 0 m2 rfl Fr.rf (fun k hk => ⟨fun w => absurd w (Nat.not_lt_zero _), fun _ => h2 k hk⟩)
          · refine g_if_eq (pc' := 38) (t := 85) rfl rfl rfl (fun _ => ?_) (fun c => absurd c (by decide))
            refine g_iinc (pc' := 88) (v := nI (i + 1)) rfl rfl rfl (nI_1 i) rfl ?_
            refine g_goto (pc' := 23) rfl rfl ?_
            by_cases ho : isO i
            · obtain ⟨hg, eg, hA2⟩ := at_o hA hlt ho
              have q := hq g hg eg
              exact ih (i + 1) m2 (g + 1) v2 (by omega) (hF.tr (f2.wide (by decide) (by decide))) hA2 (fun k hk => by rw [tq_n q]; exact f2.ah (by omega) hH k hk)
            · exact ih (i + 1) m2 g v2 (by omega) (hF.tr (f2.wide (by decide) (by decide))) (at_n hA ho) (f2.ah (by omega) hH)
      exact loop2 3125 0 m1 0 _ rfl hF at_0 (fun k hk => hz k hk)
    | succ d ih =>
      intro i m1 v2 hd hF hz
      have hlt : i < 25 := by omega
      refine g_iload_n (pc' := 3) rfl rfl rfl ?_
      refine g_bipush (pc' := 5) (v := 25) rfl rfl (by decide) ?_
      refine g_icmp_ge (pc' := 8) (t := 21) rfl rfl rfl (fun c_5 => absurd c_5 (nI_ge (b := 25) hlt (by decide))) (fun c_5 => ?_)
      refine g_aload_n (pc' := 9) rfl rfl rfl ?_
      refine g_getr (pc' := 12) rfl rfl (f_11_28) ?_
      refine g_iload_n (pc' := 13) rfl rfl rfl ?_
      refine g_iconst (pc' := 14) (v := 0) rfl rfl (by decide) ?_
      refine g_iast (pc' := 15) rfl rfl (a_69) (k := i) (by omega) rfl ?_
      refine g_iinc (pc' := 18) (v := nI (i + 1)) rfl rfl rfl (nI_1 i) rfl ?_
      refine g_goto (pc' := 2) rfl rfl ?_
      exact ih (i + 1) _ _ (by omega) (hF.s (by omega) (by omega)) (fun k hk => by
        show am_wi m1.1 69 i 0 69 k = _
        rw [am_wi_s]
        by_cases e : k = i
        · rw [e, upd_at]
        · rw [upd_ne e]; exact hz k (by omega))
  refine g_iconst (pc' := 1) (v := 0) rfl rfl (by decide) ?_
  refine g_istore_n (pc' := 2) rfl rfl rfl ?_
  exact loop 25 0 m _ rfl Fr.rf (fun k hk => absurd hk (Nat.not_lt_zero _))
theorem d_mostLeft {T : aSg} {x y : Nat} (hx : x < 5) (hy : y < 5) (hH : AH m T 120) (h : K (nI (mlN T x y)) m) : gCi X 160 [.ref 53, .int (nI x), .int (nI y)] m K := by
  refine g_inI rfl ?_
  refine g_aload_n (pc' := 1) rfl rfl rfl ?_
  refine g_getr (pc' := 4) rfl rfl (f_11_28) ?_
  refine g_iconst (pc' := 5) (v := 5) rfl rfl (by decide) ?_
  refine g_iload_n (pc' := 6) rfl rfl rfl ?_
  refine g_imul (pc' := 7) rfl rfl ?_
  refine g_vi (y := nI (5 * x)) (pk_mul 5 x) ?_
  refine g_iload_n (pc' := 8) rfl rfl rfl ?_
  refine g_iadd (pc' := 9) rfl rfl ?_
  refine g_vi (y := nI (5 * x + y)) (nI_add _ _) ?_
  refine g_iald (pc' := 10) rfl rfl (a_69) (k := 5 * x + y) (by omega) rfl ?_
  refine g_vi (y := nI (tq T x y 120)) (by rw [hH _ (by omega), show (5 * x + y) / 5 = x by omega, show (5 * x + y) % 5 = y by omega]) ?_
  refine g_istore_n (pc' := 11) rfl rfl rfl ?_
  refine g_aload_n (pc' := 12) rfl rfl rfl ?_
  refine g_getr (pc' := 15) rfl rfl (f_11_28) ?_
  refine g_iconst (pc' := 16) (v := 5) rfl rfl (by decide) ?_
  refine g_iload_n (pc' := 17) rfl rfl rfl ?_
  refine g_imul (pc' := 18) rfl rfl ?_
  refine g_vi (y := nI (5 * y)) (pk_mul 5 y) ?_
  refine g_iload_n (pc' := 19) rfl rfl rfl ?_
  refine g_iadd (pc' := 20) rfl rfl ?_
  refine g_vi (y := nI (5 * y + x)) (nI_add _ _) ?_
  refine g_iald (pc' := 21) rfl rfl (a_69) (k := 5 * y + x) (by omega) rfl ?_
  refine g_vi (y := nI (tq T y x 120)) (by rw [hH _ (by omega), show (5 * y + x) / 5 = y by omega, show (5 * y + x) % 5 = x by omega]) ?_
  refine g_istore (pc' := 23) rfl rfl rfl ?_
  refine g_iload_n (pc' := 24) rfl rfl rfl ?_
  refine g_iload (pc' := 26) rfl rfl rfl ?_
  refine g_icmp_le (pc' := 29) (t := 33) rfl rfl rfl (fun c_26 => ?_) (fun c_26 => ?_)
  · refine g_iload (pc' := 35) rfl rfl rfl ?_
    exact g_ireturn rfl rfl (g_eq h (by
        have z := (nI_leI (by have := tq_le (T := T) (x := x) (y := y) 120; have := tq_le (T := T) (x := y) (y := x) 120; omega) (by have := tq_le (T := T) (x := x) (y := y) 120; have := tq_le (T := T) (x := y) (y := x) 120; omega)).mp c_26
        unfold mlN
        by_cases z2 : tq T x y 120 < tq T y x 120
        · rw [if_pos z2]
        · rw [if_neg z2, show tq T y x 120 = tq T x y 120 by omega]) rfl)
  · refine g_iload_n (pc' := 30) rfl rfl rfl ?_
    refine g_goto (pc' := 35) rfl rfl ?_
    exact g_ireturn rfl rfl (g_eq h (by
        unfold mlN
        rw [if_neg (fun z => c_26 (nI_le (Nat.le_of_lt z) (by have := tq_le (T := T) (x := x) (y := y) 120; have := tq_le (T := T) (x := y) (y := x) 120; omega)))]) rfl)
theorem d_ask {w : Int32} (hM : MI m A) (hW : WT (aT A)) (h : ∀ m', Fr 53 73 m m' → MI m' (r_ask A w).2 → K (r_ask A w).1 m') : gCi X 161 [.ref 53, .int w] m K := by
  refine g_inI rfl ?_
  have et := hM.2.2.2.1
  refine g_iload_n (pc' := 1) rfl rfl rfl ?_
  refine g_i2l (pc' := 2) rfl rfl ?_
  refine g_lconst (pc' := 3) (v := 0) rfl rfl (by decide) ?_
  refine g_lconst (pc' := 4) (v := 1) rfl rfl (by decide) ?_
  refine g_calli (pc' := 7) rfl rfl rfl rfl (Or.inl rfl) ?_
  refine d_in (lo := 0) (hi := 1) (by decide) (by decide) (fun u1 u2 => ?_) (fun u0 => ?_)
  · refine g_if_ne (pc' := 10) (t := 13) rfl rfl rfl (fun _ => ?_) (fun c => absurd c (by decide))
    refine g_aload_n (pc' := 14) rfl rfl rfl ?_
    refine g_callv (pc' := 17) rfl rfl rfl rfl (Or.inr rfl) ?_
    refine d_ahead et hW (fun m1 f1 hH => ?_)
    refine g_iconst (pc' := 18) (v := 1) rfl rfl (by decide) ?_
    refine g_istore_n (pc' := 19) rfl rfl rfl ?_
    refine g_aload_n (pc' := 20) rfl rfl rfl ?_
    refine g_iconst (pc' := 21) (v := 0) rfl rfl (by decide) ?_
    refine g_iconst (pc' := 22) (v := 1) rfl rfl (by decide) ?_
    refine g_calli (pc' := 25) rfl rfl rfl rfl (Or.inr rfl) ?_
    refine d_mostLeft (x := 0) (y := 1) (by decide) (by decide) hH ?_
    refine g_istore_n (pc' := 26) rfl rfl rfl ?_
    refine g_iconst (pc' := 27) (v := 0) rfl rfl (by decide) ?_
    refine g_istore (pc' := 29) rfl rfl rfl ?_
    have loopx : ∀ (dx x : Nat) (s : Int32 × Int32) (v5 v6 : Value), x + dx = 5 → pO (qM (aT A)) dx x s = qR (aT A) → gG X 161 29 [.ref 53, .int w, .int s.1, .int s.2, .int (nI x), v5, v6] [] m1 (fun r m' => ∃ v, r = some (.int v) ∧ K v m') := by
      intro dx
      induction dx with
      | zero =>
        intro x s v5 v6 hdx hR
        have hi : x = 5 := by omega
        subst hi
        refine g_iload (pc' := 31) rfl rfl rfl ?_
        refine g_iconst (pc' := 32) (v := 5) rfl rfl (by decide) ?_
        refine g_icmp_ge (pc' := 35) (t := 95) rfl rfl rfl (fun c_32 => ?_) (fun c_32 => absurd (by decide) c_32)
        have es : s = qR (aT A) := hR
        subst es
        refine g_iload_n (pc' := 96) rfl rfl rfl ?_
        refine g_if_ne (pc' := 99) (t := 104) rfl rfl rfl (fun c_96 => ?_) (fun c_96 => ?_)
        · refine g_iload_n (pc' := 105) rfl rfl rfl ?_
          refine g_if_ne (pc' := 108) (t := 112) rfl rfl rfl (fun c_105 => ?_) (fun c_105 => ?_)
          · refine g_iload_n (pc' := 113) rfl rfl rfl ?_
            exact g_ireturn rfl rfl (mf h (show r_ask A w = ((qR (aT A)).2, A) by unfold r_ask; rw [if_neg (nn ⟨u1, u2⟩), if_neg (fun z => c_96 (q_none z)), if_neg c_105]) (Fr.kp f1).fr ((Fr.kp f1).mi hM ((f1.st (p := 53) (by omega)).trans hM.1)))
          · refine g_iload_n (pc' := 109) rfl rfl rfl ?_
            refine g_goto (pc' := 113) rfl rfl ?_
            exact g_ireturn rfl rfl (mf h (show r_ask A w = ((qR (aT A)).1, A) by unfold r_ask; rw [if_neg (nn ⟨u1, u2⟩), if_neg (fun z => c_96 (q_none z)), if_pos c_105]) (Fr.kp f1).fr ((Fr.kp f1).mi hM ((f1.st (p := 53) (by omega)).trans hM.1)))
        · refine g_bipush (pc' := 101) (v := -6) rfl rfl (by decide) ?_
          refine g_goto (pc' := 113) rfl rfl ?_
          exact g_ireturn rfl rfl (mf h (show r_ask A w = (-6, A) by
                  have hc : coN (aT A) 120 = 0 := by
                    by_cases z : coN (aT A) 120 = 0
                    · exact z
                    · obtain ⟨q, v, e, hq, hv, hv2⟩ := (q_all z).2
                      rw [e] at c_96
                      have := (nI_eq (a := v) (b := 0) (by omega) (by decide)).mp c_96
                      omega
                  unfold r_ask
                  rw [if_neg (nn ⟨u1, u2⟩), if_pos hc]) (Fr.kp f1).fr ((Fr.kp f1).mi hM ((f1.st (p := 53) (by omega)).trans hM.1)))
      | succ dx ihx =>
        intro x s v5 v6 hdx hR
        have hlx : x < 5 := by omega
        refine g_iload (pc' := 31) rfl rfl rfl ?_
        refine g_iconst (pc' := 32) (v := 5) rfl rfl (by decide) ?_
        refine g_icmp_ge (pc' := 35) (t := 95) rfl rfl rfl (fun c_32 => absurd c_32 (nI_ge (b := 5) hlx (by decide))) (fun c_32 => ?_)
        refine g_iload (pc' := 37) rfl rfl rfl ?_
        refine g_iconst (pc' := 38) (v := 1) rfl rfl (by decide) ?_
        refine g_iadd (pc' := 39) rfl rfl ?_
        refine g_vi (y := nI (x + 1)) (nI_1 x) ?_
        refine g_istore (pc' := 41) rfl rfl rfl ?_
        have loopy : ∀ (dy y : Nat) (s : Int32 × Int32) (v6 : Value), y + dy = 5 → x < y → pO (qM (aT A)) dx (x + 1) (pI (qM (aT A)) x dy y s) = qR (aT A) → gG X 161 41 [.ref 53, .int w, .int s.1, .int s.2, .int (nI x), .int (nI y), v6] [] m1 (fun r m' => ∃ v, r = some (.int v) ∧ K v m') := by
          intro dy
          induction dy with
          | zero =>
            intro y s v6 hdy hxy hR
            have hi : y = 5 := by omega
            subst hi
            refine g_iload (pc' := 43) rfl rfl rfl ?_
            refine g_iconst (pc' := 44) (v := 5) rfl rfl (by decide) ?_
            refine g_icmp_ge (pc' := 47) (t := 89) rfl rfl rfl (fun c_44 => ?_) (fun c_44 => absurd (by decide) c_44)
            refine g_iinc (pc' := 92) (v := nI (x + 1)) rfl rfl rfl (nI_1 x) rfl ?_
            refine g_goto (pc' := 29) rfl rfl ?_
            exact ihx (x + 1) s _ _ (by omega) hR
          | succ dy ihy =>
            intro y s v6 hdy hxy hR
            have hly : y < 5 := by omega
            refine g_iload (pc' := 43) rfl rfl rfl ?_
            refine g_iconst (pc' := 44) (v := 5) rfl rfl (by decide) ?_
            refine g_icmp_ge (pc' := 47) (t := 89) rfl rfl rfl (fun c_44 => absurd c_44 (nI_ge (b := 5) hly (by decide))) (fun c_44 => ?_)
            refine g_aload_n (pc' := 48) rfl rfl rfl ?_
            refine g_iload (pc' := 50) rfl rfl rfl ?_
            refine g_iload (pc' := 52) rfl rfl rfl ?_
            refine g_calli (pc' := 55) rfl rfl rfl rfl (Or.inr rfl) ?_
            refine d_mostLeft (by omega) hly hH ?_
            refine g_istore (pc' := 57) rfl rfl rfl ?_
            refine g_iload (pc' := 59) rfl rfl rfl ?_
            refine g_iload_n (pc' := 60) rfl rfl rfl ?_
            refine g_icmp_ge (pc' := 63) (t := 74) rfl rfl rfl (fun c_60 => ?_) (fun c_60 => ?_)
            · refine g_iload_n (pc' := 75) rfl rfl rfl ?_
              refine g_istore_n (pc' := 76) rfl rfl rfl ?_
              refine g_iload_n (pc' := 77) rfl rfl rfl ?_
              refine g_iload (pc' := 79) rfl rfl rfl ?_
              refine g_calli (pc' := 82) rfl rfl rfl rfl (Or.inl rfl) ?_
              refine d_less ?_
              refine g_istore_n (pc' := 83) rfl rfl rfl ?_
              refine g_iinc (pc' := 86) (v := nI (y + 1)) rfl rfl rfl (nI_1 y) rfl ?_
              refine g_goto (pc' := 41) rfl rfl ?_
              exact ihy (y + 1) (s.1, if nI (mlN (aT A) x y) ≤ s.2 then nI (mlN (aT A) x y) else s.2) _ (by omega) (by omega) (by
                rw [← hR, pI, qM, if_neg (Int32.not_lt.mpr c_60)])
            · refine g_bipush (pc' := 65) (v := 10) rfl rfl (by decide) ?_
              refine g_iload (pc' := 67) rfl rfl rfl ?_
              refine g_imul (pc' := 68) rfl rfl ?_
              refine g_vi (y := nI (10 * x)) (pk_mul 10 x) ?_
              refine g_iload (pc' := 70) rfl rfl rfl ?_
              refine g_iadd (pc' := 71) rfl rfl ?_
              refine g_vi (y := nI (10 * x + y)) (nI_add _ _) ?_
              refine g_goto (pc' := 75) rfl rfl ?_
              refine g_istore_n (pc' := 76) rfl rfl rfl ?_
              refine g_iload_n (pc' := 77) rfl rfl rfl ?_
              refine g_iload (pc' := 79) rfl rfl rfl ?_
              refine g_calli (pc' := 82) rfl rfl rfl rfl (Or.inl rfl) ?_
              refine d_less ?_
              refine g_istore_n (pc' := 83) rfl rfl rfl ?_
              refine g_iinc (pc' := 86) (v := nI (y + 1)) rfl rfl rfl (nI_1 y) rfl ?_
              refine g_goto (pc' := 41) rfl rfl ?_
              exact ihy (y + 1) (nI (10 * x + y), if nI (mlN (aT A) x y) ≤ s.2 then nI (mlN (aT A) x y) else s.2) _ (by omega) (by omega) (by
                rw [← hR, pI, qM, if_pos (Int32.not_le.mp c_60)])
        exact loopy (4 - x) (x + 1) s _ (by omega) (by omega) hR
    exact loopx 5 0 (1, nI (mlN (aT A) 0 1)) _ _ rfl rfl
  · refine g_if_ne (pc' := 10) (t := 13) rfl rfl rfl (fun c => absurd c (by decide)) (fun _ => ?_)
    refine g_bipush (pc' := 12) (v := -2) rfl rfl (by decide) ?_
    exact g_ireturn rfl rfl (mf h (by unfold r_ask; rw [if_pos u0]) Fr.rf hM)
end O4
