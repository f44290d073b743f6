/-! CUPS: wins in a split, the class -/
theorem co_s : ∀ S, S < 256 → (255 : Int32) - nI S = nI (255 - S) := by decide +kernel
section K4
variable {X : aX} {m : aMem} {A : aA} {K : Int32 → aMem → Prop}
def CQ (q : Nat) (m m' : aMem) : Prop := (∀ p, p ≠ 21 → p ≠ q → m'.1 p = m.1 p) ∧ m'.2 = m.2
theorem CQ.rf {q : Nat} : CQ q m m := ⟨fun _ _ _ => rfl, rfl⟩
theorem CQ.w {q p k : Nat} {v : Int32} {m1 : aMem} (h : CQ q m m1) (hp : p = 21 ∨ p = q) : CQ q m (am_wi m1.1 p k v, m1.2) := ⟨fun p' a b => by show am_wi m1.1 p k v p' = _; rw [am_wi_n (by omega)]; exact h.1 p' a b, h.2⟩
theorem CQ.fr {q : Nat} {m' : aMem} (h : CQ q m m') (h1 : 21 ≤ q) (h2 : q < 24) : Fr 21 24 m m' := ⟨fun p a => h.1 p (by omega) (by omega), fun p _ => congrFun h.2 p⟩
def F5 (m : aMem) (s : aStr) (S n : Nat) : Prop := ∀ j, j < n → m.1 21 j = nI (4 * (sc s (mb S j)).1 + (sc s (mb S j)).2)
def W3 (m : aMem) (q : Nat) (s : aStr) (S n : Nat) : Prop := ∀ w, w < n → m.1 q w = nI (4 * (hlf s S w).1 + (hlf s S w).2)
theorem c_fill22 {K : aMem → Prop} {s : aStr} {S Mx : Nat} (hs : stAt m 2 = s) (hS8 : S < 256) (h4 : pcN S = 4) (hW : WFs Mx s) (hb : ∀ k, k < 8 → ¬ sC s k = 3) (h : ∀ m', CQ 22 m m' → W3 m' 22 s S 3 → K m') : gCv X 4 [.ref 20, .ref 2, .int (nI S), .ref 22] m K := by
  refine g_inV rfl ?_
  have c8 := cnt_8 S hS8
  rw [h4] at c8
  have o : ∀ j, j < 4 → okF (sc s (mb S j)) := fun j hj => (sc_ok hW (mb_k S hS8 h4 j hj).1 hb).1
  have loop : ∀ (d i : Nat) (m1 : aMem) (v6 v7 v8 v9 v10 : Value), i + d = 8 → CQ 22 m m1 → F5 m1 s S (cnt S i) → gG X 4 6 [.ref 20, .ref 2, .int (nI S), .ref 22, .int (nI (cnt S i)), .int (nI i), v6, v7, v8, v9, v10] [] m1 (fun r m' => r = none ∧ K m') := by
    intro d
    induction d with
    | zero =>
      intro i m1 v6 v7 v8 v9 v10 hd hQ hF4
      have hi : i = 8 := by omega
      subst hi
      refine g_iload (pc' := 8) rfl rfl rfl ?_
      refine g_bipush (pc' := 10) (v := 8) rfl rfl (by decide) ?_
      refine g_icmp_ge (pc' := 13) (t := 51) rfl rfl rfl (fun c_10 => ?_) (fun c_10 => absurd (by decide) c_10)
      refine g_iconst (pc' := 52) (v := 0) rfl rfl (by decide) ?_
      refine g_istore (pc' := 54) rfl rfl rfl ?_
      rw [c8] at hF4
      have loop2 : ∀ (d i : Nat) (m2 : aMem) (v6 v7 v8 v9 v10 : Value), i + d = 3 → CQ 22 m m2 → F5 m2 s S 4 → W3 m2 22 s S i → gG X 4 54 [.ref 20, .ref 2, .int (nI S), .ref 22, .int (nI (cnt S 8)), .int (nI i), v6, v7, v8, v9, v10] [] m2 (fun r m' => r = none ∧ K m') := by
        intro d
        induction d with
        | zero =>
          intro i m2 v6 v7 v8 v9 v10 hd hQ hF4 hW3
          have hi : i = 3 := by omega
          subst hi
          refine g_iload (pc' := 56) rfl rfl rfl ?_
          refine g_iconst (pc' := 57) (v := 3) rfl rfl (by decide) ?_
          refine g_icmp_ge (pc' := 60) (t := 149) rfl rfl rfl (fun c_57 => ?_) (fun c_57 => absurd (by decide) c_57)
          exact g_return rfl rfl (h m2 hQ hW3)
        | succ d ih =>
          intro i m2 v6 v7 v8 v9 v10 hd hQ hF4 hW3
          have hlt : i < 3 := by omega
          have hst : stAt m2 2 = s := ((hQ.fr (by decide) (by decide)).st (p := 2) (by omega)).trans hs
          refine g_iload (pc' := 56) rfl rfl rfl ?_
          refine g_iconst (pc' := 57) (v := 3) rfl rfl (by decide) ?_
          refine g_icmp_ge (pc' := 60) (t := 149) rfl rfl rfl (fun c_57 => absurd c_57 (nI_ge (b := 3) hlt (by decide))) (fun c_57 => ?_)
          refine g_iload (pc' := 62) rfl rfl rfl ?_
          refine g_iconst (pc' := 63) (v := 1) rfl rfl (by decide) ?_
          refine g_iadd (pc' := 64) rfl rfl ?_
          refine g_vi (y := nI (1 + i)) (by rw [Nat.add_comm]; exact nI_1 i) ?_
          refine g_istore (pc' := 66) rfl rfl rfl ?_
          refine g_iload (pc' := 68) rfl rfl rfl ?_
          refine g_iconst (pc' := 69) (v := 1) rfl rfl (by decide) ?_
          refine g_icmp_ne (pc' := 72) (t := 76) rfl rfl rfl (fun c_69 => ?_) (fun c_69 => ?_)
          · refine g_iconst (pc' := 77) (v := 1) rfl rfl (by decide) ?_
            refine g_istore (pc' := 79) rfl rfl rfl ?_
            refine g_iload (pc' := 81) rfl rfl rfl ?_
            refine g_iconst (pc' := 82) (v := 3) rfl rfl (by decide) ?_
            refine g_icmp_ne (pc' := 85) (t := 89) rfl rfl rfl (fun c_82 => ?_) (fun c_82 => ?_)
            · refine g_iconst (pc' := 90) (v := 3) rfl rfl (by decide) ?_
              refine g_istore (pc' := 92) rfl rfl rfl ?_
              have ei : i = 1 := by
                have a : ¬ i = 0 := fun z => c_69 (by rw [z]; rfl)
                have b : ¬ i = 2 := fun z => c_82 (by rw [z]; rfl)
                omega
              refine g_aload_n (pc' := 93) rfl rfl rfl ?_
              refine g_aload_n (pc' := 94) rfl rfl rfl ?_
              refine g_getr (pc' := 97) rfl rfl (f_0_0) ?_
              refine g_iconst (pc' := 98) (v := 0) rfl rfl (by decide) ?_
              refine g_iald (pc' := 99) rfl rfl (a_21) (k := 0) (by decide) rfl ?_
              refine g_vi (y := nI (4 * (sc s (mb S (0))).1 + (sc s (mb S (0))).2)) (hF4 0 (by decide)) ?_
              refine g_aload_n (pc' := 100) rfl rfl rfl ?_
              refine g_getr (pc' := 103) rfl rfl (f_0_0) ?_
              refine g_iload (pc' := 105) rfl rfl rfl ?_
              refine g_iald (pc' := 106) rfl rfl (a_21) (k := 1 + i) (by omega) rfl ?_
              refine g_vi (y := nI (4 * (sc s (mb S (1 + i))).1 + (sc s (mb S (1 + i))).2)) (hF4 (1 + i) (by omega)) ?_
              refine g_calli (pc' := 109) rfl rfl rfl rfl (Or.inl rfl) ?_
              refine c_meet (o 0 (by decide)) (o (1 + i) (by omega)) ?_
              rw [hst]
              refine g_istore (pc' := 111) rfl rfl rfl ?_
              refine g_aload_n (pc' := 112) rfl rfl rfl ?_
              refine g_aload_n (pc' := 113) rfl rfl rfl ?_
              refine g_getr (pc' := 116) rfl rfl (f_0_0) ?_
              refine g_iload (pc' := 118) rfl rfl rfl ?_
              refine g_iald (pc' := 119) rfl rfl (a_21) (k := 1) (by decide) rfl ?_
              refine g_vi (y := nI (4 * (sc s (mb S (1))).1 + (sc s (mb S (1))).2)) (hF4 1 (by decide)) ?_
              refine g_aload_n (pc' := 120) rfl rfl rfl ?_
              refine g_getr (pc' := 123) rfl rfl (f_0_0) ?_
              refine g_iload (pc' := 125) rfl rfl rfl ?_
              refine g_iald (pc' := 126) rfl rfl (a_21) (k := 3) (by decide) rfl ?_
              refine g_vi (y := nI (4 * (sc s (mb S (3))).1 + (sc s (mb S (3))).2)) (hF4 3 (by decide)) ?_
              refine g_calli (pc' := 129) rfl rfl rfl rfl (Or.inl rfl) ?_
              refine c_meet (o 1 (by decide)) (o 3 (by decide)) ?_
              rw [hst]
              refine g_istore (pc' := 131) rfl rfl rfl ?_
              refine g_aload_n (pc' := 132) rfl rfl rfl ?_
              refine g_iload (pc' := 134) rfl rfl rfl ?_
              refine g_aload_n (pc' := 135) rfl rfl rfl ?_
              refine g_iload (pc' := 137) rfl rfl rfl ?_
              refine g_iload (pc' := 139) rfl rfl rfl ?_
              refine g_calli (pc' := 142) rfl rfl rfl rfl (Or.inl rfl) ?_
              refine c_meet (me_ok (o 0 (by decide)) (o (1 + i) (by omega))).1 (me_ok (o 1 (by decide)) (o 3 (by decide))).1 ?_
              rw [hst]
              have eh : meP s (meP s (sc s (mb S 0)) (sc s (mb S (1 + i)))) (meP s (sc s (mb S 1)) (sc s (mb S 3))) = hlf s S i := by subst ei; rfl
              rw [eh]
              refine g_iast (pc' := 143) rfl rfl (a_22) (k := i) (by omega) rfl ?_
              refine g_iinc (pc' := 146) (v := nI (i + 1)) rfl rfl rfl (nI_1 i) rfl ?_
              refine g_goto (pc' := 54) rfl rfl ?_
              exact ih (i + 1) (am_wi m2.1 22 i (nI (4 * (hlf s S i).1 + (hlf s S i).2)), m2.2) _ _ _ _ _ (by omega) (hQ.w (Or.inr rfl)) (fun j hj => by show am_wi m2.1 22 i (nI (4 * (hlf s S i).1 + (hlf s S i).2)) 21 j = _; rw [am_wi_n (by decide)]; exact hF4 j hj) (fun w hw => by
                show am_wi m2.1 22 i (nI (4 * (hlf s S i).1 + (hlf s S i).2)) 22 w = _
                rw [am_wi_s]
                by_cases e : w = i
                · subst e; rw [upd_at]
                · rw [upd_ne e]; exact hW3 w (by omega))
            · refine g_iconst (pc' := 86) (v := 2) rfl rfl (by decide) ?_
              refine g_goto (pc' := 90) rfl rfl ?_
              refine g_istore (pc' := 92) rfl rfl rfl ?_
              have ei : i = 2 := by
                have a := (nI_eq (a := 1 + i) (b := 3) (by omega) (by decide)).mp c_82
                omega
              refine g_aload_n (pc' := 93) rfl rfl rfl ?_
              refine g_aload_n (pc' := 94) rfl rfl rfl ?_
              refine g_getr (pc' := 97) rfl rfl (f_0_0) ?_
              refine g_iconst (pc' := 98) (v := 0) rfl rfl (by decide) ?_
              refine g_iald (pc' := 99) rfl rfl (a_21) (k := 0) (by decide) rfl ?_
              refine g_vi (y := nI (4 * (sc s (mb S (0))).1 + (sc s (mb S (0))).2)) (hF4 0 (by decide)) ?_
              refine g_aload_n (pc' := 100) rfl rfl rfl ?_
              refine g_getr (pc' := 103) rfl rfl (f_0_0) ?_
              refine g_iload (pc' := 105) rfl rfl rfl ?_
              refine g_iald (pc' := 106) rfl rfl (a_21) (k := 1 + i) (by omega) rfl ?_
              refine g_vi (y := nI (4 * (sc s (mb S (1 + i))).1 + (sc s (mb S (1 + i))).2)) (hF4 (1 + i) (by omega)) ?_
              refine g_calli (pc' := 109) rfl rfl rfl rfl (Or.inl rfl) ?_
              refine c_meet (o 0 (by decide)) (o (1 + i) (by omega)) ?_
              rw [hst]
              refine g_istore (pc' := 111) rfl rfl rfl ?_
              refine g_aload_n (pc' := 112) rfl rfl rfl ?_
              refine g_aload_n (pc' := 113) rfl rfl rfl ?_
              refine g_getr (pc' := 116) rfl rfl (f_0_0) ?_
              refine g_iload (pc' := 118) rfl rfl rfl ?_
              refine g_iald (pc' := 119) rfl rfl (a_21) (k := 1) (by decide) rfl ?_
              refine g_vi (y := nI (4 * (sc s (mb S (1))).1 + (sc s (mb S (1))).2)) (hF4 1 (by decide)) ?_
              refine g_aload_n (pc' := 120) rfl rfl rfl ?_
              refine g_getr (pc' := 123) rfl rfl (f_0_0) ?_
              refine g_iload (pc' := 125) rfl rfl rfl ?_
              refine g_iald (pc' := 126) rfl rfl (a_21) (k := 2) (by decide) rfl ?_
              refine g_vi (y := nI (4 * (sc s (mb S (2))).1 + (sc s (mb S (2))).2)) (hF4 2 (by decide)) ?_
              refine g_calli (pc' := 129) rfl rfl rfl rfl (Or.inl rfl) ?_
              refine c_meet (o 1 (by decide)) (o 2 (by decide)) ?_
              rw [hst]
              refine g_istore (pc' := 131) rfl rfl rfl ?_
              refine g_aload_n (pc' := 132) rfl rfl rfl ?_
              refine g_iload (pc' := 134) rfl rfl rfl ?_
              refine g_aload_n (pc' := 135) rfl rfl rfl ?_
              refine g_iload (pc' := 137) rfl rfl rfl ?_
              refine g_iload (pc' := 139) rfl rfl rfl ?_
              refine g_calli (pc' := 142) rfl rfl rfl rfl (Or.inl rfl) ?_
              refine c_meet (me_ok (o 0 (by decide)) (o (1 + i) (by omega))).1 (me_ok (o 1 (by decide)) (o 2 (by decide))).1 ?_
              rw [hst]
              have eh : meP s (meP s (sc s (mb S 0)) (sc s (mb S (1 + i)))) (meP s (sc s (mb S 1)) (sc s (mb S 2))) = hlf s S i := by subst ei; rfl
              rw [eh]
              refine g_iast (pc' := 143) rfl rfl (a_22) (k := i) (by omega) rfl ?_
              refine g_iinc (pc' := 146) (v := nI (i + 1)) rfl rfl rfl (nI_1 i) rfl ?_
              refine g_goto (pc' := 54) rfl rfl ?_
              exact ih (i + 1) (am_wi m2.1 22 i (nI (4 * (hlf s S i).1 + (hlf s S i).2)), m2.2) _ _ _ _ _ (by omega) (hQ.w (Or.inr rfl)) (fun j hj => by show am_wi m2.1 22 i (nI (4 * (hlf s S i).1 + (hlf s S i).2)) 21 j = _; rw [am_wi_n (by decide)]; exact hF4 j hj) (fun w hw => by
                show am_wi m2.1 22 i (nI (4 * (hlf s S i).1 + (hlf s S i).2)) 22 w = _
                rw [am_wi_s]
                by_cases e : w = i
                · subst e; rw [upd_at]
                · rw [upd_ne e]; exact hW3 w (by omega))
          · refine g_iconst (pc' := 73) (v := 2) rfl rfl (by decide) ?_
            refine g_goto (pc' := 77) rfl rfl ?_
            refine g_istore (pc' := 79) rfl rfl rfl ?_
            refine g_iload (pc' := 81) rfl rfl rfl ?_
            refine g_iconst (pc' := 82) (v := 3) rfl rfl (by decide) ?_
            refine g_icmp_ne (pc' := 85) (t := 89) rfl rfl rfl (fun c_82 => ?_) (fun c_82 => ?_)
            · refine g_iconst (pc' := 90) (v := 3) rfl rfl (by decide) ?_
              refine g_istore (pc' := 92) rfl rfl rfl ?_
              have ei : i = 0 := by
                have a := (nI_eq (a := 1 + i) (b := 1) (by omega) (by decide)).mp c_69
                omega
              refine g_aload_n (pc' := 93) rfl rfl rfl ?_
              refine g_aload_n (pc' := 94) rfl rfl rfl ?_
              refine g_getr (pc' := 97) rfl rfl (f_0_0) ?_
              refine g_iconst (pc' := 98) (v := 0) rfl rfl (by decide) ?_
              refine g_iald (pc' := 99) rfl rfl (a_21) (k := 0) (by decide) rfl ?_
              refine g_vi (y := nI (4 * (sc s (mb S (0))).1 + (sc s (mb S (0))).2)) (hF4 0 (by decide)) ?_
              refine g_aload_n (pc' := 100) rfl rfl rfl ?_
              refine g_getr (pc' := 103) rfl rfl (f_0_0) ?_
              refine g_iload (pc' := 105) rfl rfl rfl ?_
              refine g_iald (pc' := 106) rfl rfl (a_21) (k := 1 + i) (by omega) rfl ?_
              refine g_vi (y := nI (4 * (sc s (mb S (1 + i))).1 + (sc s (mb S (1 + i))).2)) (hF4 (1 + i) (by omega)) ?_
              refine g_calli (pc' := 109) rfl rfl rfl rfl (Or.inl rfl) ?_
              refine c_meet (o 0 (by decide)) (o (1 + i) (by omega)) ?_
              rw [hst]
              refine g_istore (pc' := 111) rfl rfl rfl ?_
              refine g_aload_n (pc' := 112) rfl rfl rfl ?_
              refine g_aload_n (pc' := 113) rfl rfl rfl ?_
              refine g_getr (pc' := 116) rfl rfl (f_0_0) ?_
              refine g_iload (pc' := 118) rfl rfl rfl ?_
              refine g_iald (pc' := 119) rfl rfl (a_21) (k := 2) (by decide) rfl ?_
              refine g_vi (y := nI (4 * (sc s (mb S (2))).1 + (sc s (mb S (2))).2)) (hF4 2 (by decide)) ?_
              refine g_aload_n (pc' := 120) rfl rfl rfl ?_
              refine g_getr (pc' := 123) rfl rfl (f_0_0) ?_
              refine g_iload (pc' := 125) rfl rfl rfl ?_
              refine g_iald (pc' := 126) rfl rfl (a_21) (k := 3) (by decide) rfl ?_
              refine g_vi (y := nI (4 * (sc s (mb S (3))).1 + (sc s (mb S (3))).2)) (hF4 3 (by decide)) ?_
              refine g_calli (pc' := 129) rfl rfl rfl rfl (Or.inl rfl) ?_
              refine c_meet (o 2 (by decide)) (o 3 (by decide)) ?_
              rw [hst]
              refine g_istore (pc' := 131) rfl rfl rfl ?_
              refine g_aload_n (pc' := 132) rfl rfl rfl ?_
              refine g_iload (pc' := 134) rfl rfl rfl ?_
              refine g_aload_n (pc' := 135) rfl rfl rfl ?_
              refine g_iload (pc' := 137) rfl rfl rfl ?_
              refine g_iload (pc' := 139) rfl rfl rfl ?_
              refine g_calli (pc' := 142) rfl rfl rfl rfl (Or.inl rfl) ?_
              refine c_meet (me_ok (o 0 (by decide)) (o (1 + i) (by omega))).1 (me_ok (o 2 (by decide)) (o 3 (by decide))).1 ?_
              rw [hst]
              have eh : meP s (meP s (sc s (mb S 0)) (sc s (mb S (1 + i)))) (meP s (sc s (mb S 2)) (sc s (mb S 3))) = hlf s S i := by subst ei; rfl
              rw [eh]
              refine g_iast (pc' := 143) rfl rfl (a_22) (k := i) (by omega) rfl ?_
              refine g_iinc (pc' := 146) (v := nI (i + 1)) rfl rfl rfl (nI_1 i) rfl ?_
              refine g_goto (pc' := 54) rfl rfl ?_
              exact ih (i + 1) (am_wi m2.1 22 i (nI (4 * (hlf s S i).1 + (hlf s S i).2)), m2.2) _ _ _ _ _ (by omega) (hQ.w (Or.inr rfl)) (fun j hj => by show am_wi m2.1 22 i (nI (4 * (hlf s S i).1 + (hlf s S i).2)) 21 j = _; rw [am_wi_n (by decide)]; exact hF4 j hj) (fun w hw => by
                show am_wi m2.1 22 i (nI (4 * (hlf s S i).1 + (hlf s S i).2)) 22 w = _
                rw [am_wi_s]
                by_cases e : w = i
                · subst e; rw [upd_at]
                · rw [upd_ne e]; exact hW3 w (by omega))
            · refine g_iconst (pc' := 86) (v := 2) rfl rfl (by decide) ?_
              refine g_goto (pc' := 90) rfl rfl ?_
              refine g_istore (pc' := 92) rfl rfl rfl ?_
              exact absurd (c_69.symm.trans c_82) (by decide)
      exact loop2 3 0 m1 _ _ _ _ _ rfl hQ hF4 (fun w hw => absurd hw (Nat.not_lt_zero _))
    | succ d ih =>
      intro i m1 v6 v7 v8 v9 v10 hd hQ hF4
      have hlt : i < 8 := by omega
      refine g_iload (pc' := 8) rfl rfl rfl ?_
      refine g_bipush (pc' := 10) (v := 8) rfl rfl (by decide) ?_
      refine g_icmp_ge (pc' := 13) (t := 51) rfl rfl rfl (fun c_10 => absurd c_10 (nI_ge (b := 8) hlt (by decide))) (fun c_10 => ?_)
      refine g_iload_n (pc' := 14) rfl rfl rfl ?_
      refine g_iload (pc' := 16) rfl rfl rfl ?_
      refine g_ishr (pc' := 17) rfl rfl ?_
      refine g_iconst (pc' := 18) (v := 1) rfl rfl (by decide) ?_
      refine g_iand (pc' := 19) rfl rfl ?_
      refine g_iconst (pc' := 20) (v := 1) rfl rfl (by decide) ?_
      refine g_icmp_ne (pc' := 23) (t := 45) rfl rfl rfl (fun c_20 => ?_) (fun c_20 => ?_)
      · have hb0 := fun z => c_20 ((has_nI (by omega) (by omega)).mpr z)
        have e1 := cnt_s S i
        rw [if_neg hb0] at e1
        refine g_iinc (pc' := 48) (v := nI (i + 1)) rfl rfl rfl (nI_1 i) rfl ?_
        refine g_goto (pc' := 6) rfl rfl ?_
        have hh := ih (i + 1) m1 v6 v7 v8 v9 v10 (by omega) hQ (by rw [e1]; exact hF4)
        rw [e1] at hh
        exact hh
      · have hb1 := (has_nI (by omega) (by omega)).mp c_20
        have e1 := cnt_s S i
        rw [if_pos hb1] at e1
        have e2 := cnt_mono S (i + 1) (7 - i)
        rw [show i + 1 + (7 - i) = 8 by omega, c8] at e2
        have ok := sc_ok hW hlt hb
        refine g_iload (pc' := 25) rfl rfl rfl ?_
        refine g_iconst (pc' := 26) (v := 4) rfl rfl (by decide) ?_
        refine g_icmp_ge (pc' := 29) (t := 45) rfl rfl rfl (fun c_26 => absurd c_26 (nI_ge (b := 4) (by omega) (by decide))) (fun c_26 => ?_)
        refine g_aload_n (pc' := 30) rfl rfl rfl ?_
        refine g_getr (pc' := 33) rfl rfl (f_0_0) ?_
        refine g_iload (pc' := 35) rfl rfl rfl ?_
        refine g_aload_n (pc' := 36) rfl rfl rfl ?_
        refine g_iload (pc' := 38) rfl rfl rfl ?_
        refine g_calli (pc' := 41) rfl rfl rfl rfl (Or.inr (rc_S isS_2)) ?_
        refine c_fighterOf (c := (sc s i).2) isS_2 (by omega) (by rw [(hQ.fr (by decide) (by decide)).st (p := 2) (by omega), hs]; exact ok.2) ?_
        refine g_iast (pc' := 42) rfl rfl (a_21) (k := cnt S i) (by omega) rfl ?_
        refine g_iinc (pc' := 45) (v := nI (cnt S i + 1)) rfl rfl rfl (nI_1 _) rfl ?_
        refine g_iinc (pc' := 48) (v := nI (i + 1)) rfl rfl rfl (nI_1 i) rfl ?_
        refine g_goto (pc' := 6) rfl rfl ?_
        have hh := ih (i + 1) (am_wi m1.1 21 (cnt S i) (nI (4 * i + (sc s i).2)), m1.2) v6 v7 v8 v9 v10 (by omega) (hQ.w (Or.inl rfl)) (by
          rw [e1]
          intro j hj
          show am_wi m1.1 21 (cnt S i) (nI (4 * i + (sc s i).2)) 21 j = _
          rw [am_wi_s]
          by_cases e : j = cnt S i
          · subst e; rw [upd_at, cnt_k S hS8 i hlt hb1]; rfl
          · rw [upd_ne e]; exact hF4 j (by omega))
        rw [e1] at hh
        exact hh
  refine g_iconst (pc' := 1) (v := 0) rfl rfl (by decide) ?_
  refine g_istore (pc' := 3) rfl rfl rfl ?_
  refine g_iconst (pc' := 4) (v := 0) rfl rfl (by decide) ?_
  refine g_istore (pc' := 6) rfl rfl rfl ?_
  exact loop 8 0 m _ _ _ _ _ rfl CQ.rf (fun j hj => absurd hj (Nat.not_lt_zero _))
theorem c_fill23 {K : aMem → Prop} {s : aStr} {S Mx : Nat} (hs : stAt m 2 = s) (hS8 : S < 256) (h4 : pcN S = 4) (hW : WFs Mx s) (hb : ∀ k, k < 8 → ¬ sC s k = 3) (h : ∀ m', CQ 23 m m' → W3 m' 23 s S 3 → K m') : gCv X 4 [.ref 20, .ref 2, .int (nI S), .ref 23] m K := by
  refine g_inV rfl ?_
  have c8 := cnt_8 S hS8
  rw [h4] at c8
  have o : ∀ j, j < 4 → okF (sc s (mb S j)) := fun j hj => (sc_ok hW (mb_k S hS8 h4 j hj).1 hb).1
  have loop : ∀ (d i : Nat) (m1 : aMem) (v6 v7 v8 v9 v10 : Value), i + d = 8 → CQ 23 m m1 → F5 m1 s S (cnt S i) → gG X 4 6 [.ref 20, .ref 2, .int (nI S), .ref 23, .int (nI (cnt S i)), .int (nI i), v6, v7, v8, v9, v10] [] m1 (fun r m' => r = none ∧ K m') := by
    intro d
    induction d with
    | zero =>
      intro i m1 v6 v7 v8 v9 v10 hd hQ hF4
      have hi : i = 8 := by omega
      subst hi
      refine g_iload (pc' := 8) rfl rfl rfl ?_
      refine g_bipush (pc' := 10) (v := 8) rfl rfl (by decide) ?_
      refine g_icmp_ge (pc' := 13) (t := 51) rfl rfl rfl (fun c_10 => ?_) (fun c_10 => absurd (by decide) c_10)
      refine g_iconst (pc' := 52) (v := 0) rfl rfl (by decide) ?_
      refine g_istore (pc' := 54) rfl rfl rfl ?_
      rw [c8] at hF4
      have loop2 : ∀ (d i : Nat) (m2 : aMem) (v6 v7 v8 v9 v10 : Value), i + d = 3 → CQ 23 m m2 → F5 m2 s S 4 → W3 m2 23 s S i → gG X 4 54 [.ref 20, .ref 2, .int (nI S), .ref 23, .int (nI (cnt S 8)), .int (nI i), v6, v7, v8, v9, v10] [] m2 (fun r m' => r = none ∧ K m') := by
        intro d
        induction d with
        | zero =>
          intro i m2 v6 v7 v8 v9 v10 hd hQ hF4 hW3
          have hi : i = 3 := by omega
          subst hi
          refine g_iload (pc' := 56) rfl rfl rfl ?_
          refine g_iconst (pc' := 57) (v := 3) rfl rfl (by decide) ?_
          refine g_icmp_ge (pc' := 60) (t := 149) rfl rfl rfl (fun c_57 => ?_) (fun c_57 => absurd (by decide) c_57)
          exact g_return rfl rfl (h m2 hQ hW3)
        | succ d ih =>
          intro i m2 v6 v7 v8 v9 v10 hd hQ hF4 hW3
          have hlt : i < 3 := by omega
          have hst : stAt m2 2 = s := ((hQ.fr (by decide) (by decide)).st (p := 2) (by omega)).trans hs
          refine g_iload (pc' := 56) rfl rfl rfl ?_
          refine g_iconst (pc' := 57) (v := 3) rfl rfl (by decide) ?_
          refine g_icmp_ge (pc' := 60) (t := 149) rfl rfl rfl (fun c_57 => absurd c_57 (nI_ge (b := 3) hlt (by decide))) (fun c_57 => ?_)
          refine g_iload (pc' := 62) rfl rfl rfl ?_
          refine g_iconst (pc' := 63) (v := 1) rfl rfl (by decide) ?_
          refine g_iadd (pc' := 64) rfl rfl ?_
          refine g_vi (y := nI (1 + i)) (by rw [Nat.add_comm]; exact nI_1 i) ?_
          refine g_istore (pc' := 66) rfl rfl rfl ?_
          refine g_iload (pc' := 68) rfl rfl rfl ?_
          refine g_iconst (pc' := 69) (v := 1) rfl rfl (by decide) ?_
          refine g_icmp_ne (pc' := 72) (t := 76) rfl rfl rfl (fun c_69 => ?_) (fun c_69 => ?_)
          · refine g_iconst (pc' := 77) (v := 1) rfl rfl (by decide) ?_
            refine g_istore (pc' := 79) rfl rfl rfl ?_
            refine g_iload (pc' := 81) rfl rfl rfl ?_
            refine g_iconst (pc' := 82) (v := 3) rfl rfl (by decide) ?_
            refine g_icmp_ne (pc' := 85) (t := 89) rfl rfl rfl (fun c_82 => ?_) (fun c_82 => ?_)
            · refine g_iconst (pc' := 90) (v := 3) rfl rfl (by decide) ?_
              refine g_istore (pc' := 92) rfl rfl rfl ?_
              have ei : i = 1 := by
                have a : ¬ i = 0 := fun z => c_69 (by rw [z]; rfl)
                have b : ¬ i = 2 := fun z => c_82 (by rw [z]; rfl)
                omega
              refine g_aload_n (pc' := 93) rfl rfl rfl ?_
              refine g_aload_n (pc' := 94) rfl rfl rfl ?_
              refine g_getr (pc' := 97) rfl rfl (f_0_0) ?_
              refine g_iconst (pc' := 98) (v := 0) rfl rfl (by decide) ?_
              refine g_iald (pc' := 99) rfl rfl (a_21) (k := 0) (by decide) rfl ?_
              refine g_vi (y := nI (4 * (sc s (mb S (0))).1 + (sc s (mb S (0))).2)) (hF4 0 (by decide)) ?_
              refine g_aload_n (pc' := 100) rfl rfl rfl ?_
              refine g_getr (pc' := 103) rfl rfl (f_0_0) ?_
              refine g_iload (pc' := 105) rfl rfl rfl ?_
              refine g_iald (pc' := 106) rfl rfl (a_21) (k := 1 + i) (by omega) rfl ?_
              refine g_vi (y := nI (4 * (sc s (mb S (1 + i))).1 + (sc s (mb S (1 + i))).2)) (hF4 (1 + i) (by omega)) ?_
              refine g_calli (pc' := 109) rfl rfl rfl rfl (Or.inl rfl) ?_
              refine c_meet (o 0 (by decide)) (o (1 + i) (by omega)) ?_
              rw [hst]
              refine g_istore (pc' := 111) rfl rfl rfl ?_
              refine g_aload_n (pc' := 112) rfl rfl rfl ?_
              refine g_aload_n (pc' := 113) rfl rfl rfl ?_
              refine g_getr (pc' := 116) rfl rfl (f_0_0) ?_
              refine g_iload (pc' := 118) rfl rfl rfl ?_
              refine g_iald (pc' := 119) rfl rfl (a_21) (k := 1) (by decide) rfl ?_
              refine g_vi (y := nI (4 * (sc s (mb S (1))).1 + (sc s (mb S (1))).2)) (hF4 1 (by decide)) ?_
              refine g_aload_n (pc' := 120) rfl rfl rfl ?_
              refine g_getr (pc' := 123) rfl rfl (f_0_0) ?_
              refine g_iload (pc' := 125) rfl rfl rfl ?_
              refine g_iald (pc' := 126) rfl rfl (a_21) (k := 3) (by decide) rfl ?_
              refine g_vi (y := nI (4 * (sc s (mb S (3))).1 + (sc s (mb S (3))).2)) (hF4 3 (by decide)) ?_
              refine g_calli (pc' := 129) rfl rfl rfl rfl (Or.inl rfl) ?_
              refine c_meet (o 1 (by decide)) (o 3 (by decide)) ?_
              rw [hst]
              refine g_istore (pc' := 131) rfl rfl rfl ?_
              refine g_aload_n (pc' := 132) rfl rfl rfl ?_
              refine g_iload (pc' := 134) rfl rfl rfl ?_
              refine g_aload_n (pc' := 135) rfl rfl rfl ?_
              refine g_iload (pc' := 137) rfl rfl rfl ?_
              refine g_iload (pc' := 139) rfl rfl rfl ?_
              refine g_calli (pc' := 142) rfl rfl rfl rfl (Or.inl rfl) ?_
              refine c_meet (me_ok (o 0 (by decide)) (o (1 + i) (by omega))).1 (me_ok (o 1 (by decide)) (o 3 (by decide))).1 ?_
              rw [hst]
              have eh : meP s (meP s (sc s (mb S 0)) (sc s (mb S (1 + i)))) (meP s (sc s (mb S 1)) (sc s (mb S 3))) = hlf s S i := by subst ei; rfl
              rw [eh]
              refine g_iast (pc' := 143) rfl rfl (a_23) (k := i) (by omega) rfl ?_
              refine g_iinc (pc' := 146) (v := nI (i + 1)) rfl rfl rfl (nI_1 i) rfl ?_
              refine g_goto (pc' := 54) rfl rfl ?_
              exact ih (i + 1) (am_wi m2.1 23 i (nI (4 * (hlf s S i).1 + (hlf s S i).2)), m2.2) _ _ _ _ _ (by omega) (hQ.w (Or.inr rfl)) (fun j hj => by show am_wi m2.1 23 i (nI (4 * (hlf s S i).1 + (hlf s S i).2)) 21 j = _; rw [am_wi_n (by decide)]; exact hF4 j hj) (fun w hw => by
                show am_wi m2.1 23 i (nI (4 * (hlf s S i).1 + (hlf s S i).2)) 23 w = _
                rw [am_wi_s]
                by_cases e : w = i
                · subst e; rw [upd_at]
                · rw [upd_ne e]; exact hW3 w (by omega))
            · refine g_iconst (pc' := 86) (v := 2) rfl rfl (by decide) ?_
              refine g_goto (pc' := 90) rfl rfl ?_
              refine g_istore (pc' := 92) rfl rfl rfl ?_
              have ei : i = 2 := by
                have a := (nI_eq (a := 1 + i) (b := 3) (by omega) (by decide)).mp c_82
                omega
              refine g_aload_n (pc' := 93) rfl rfl rfl ?_
              refine g_aload_n (pc' := 94) rfl rfl rfl ?_
              refine g_getr (pc' := 97) rfl rfl (f_0_0) ?_
              refine g_iconst (pc' := 98) (v := 0) rfl rfl (by decide) ?_
              refine g_iald (pc' := 99) rfl rfl (a_21) (k := 0) (by decide) rfl ?_
              refine g_vi (y := nI (4 * (sc s (mb S (0))).1 + (sc s (mb S (0))).2)) (hF4 0 (by decide)) ?_
              refine g_aload_n (pc' := 100) rfl rfl rfl ?_
              refine g_getr (pc' := 103) rfl rfl (f_0_0) ?_
              refine g_iload (pc' := 105) rfl rfl rfl ?_
              refine g_iald (pc' := 106) rfl rfl (a_21) (k := 1 + i) (by omega) rfl ?_
              refine g_vi (y := nI (4 * (sc s (mb S (1 + i))).1 + (sc s (mb S (1 + i))).2)) (hF4 (1 + i) (by omega)) ?_
              refine g_calli (pc' := 109) rfl rfl rfl rfl (Or.inl rfl) ?_
              refine c_meet (o 0 (by decide)) (o (1 + i) (by omega)) ?_
              rw [hst]
              refine g_istore (pc' := 111) rfl rfl rfl ?_
              refine g_aload_n (pc' := 112) rfl rfl rfl ?_
              refine g_aload_n (pc' := 113) rfl rfl rfl ?_
              refine g_getr (pc' := 116) rfl rfl (f_0_0) ?_
              refine g_iload (pc' := 118) rfl rfl rfl ?_
              refine g_iald (pc' := 119) rfl rfl (a_21) (k := 1) (by decide) rfl ?_
              refine g_vi (y := nI (4 * (sc s (mb S (1))).1 + (sc s (mb S (1))).2)) (hF4 1 (by decide)) ?_
              refine g_aload_n (pc' := 120) rfl rfl rfl ?_
              refine g_getr (pc' := 123) rfl rfl (f_0_0) ?_
              refine g_iload (pc' := 125) rfl rfl rfl ?_
              refine g_iald (pc' := 126) rfl rfl (a_21) (k := 2) (by decide) rfl ?_
              refine g_vi (y := nI (4 * (sc s (mb S (2))).1 + (sc s (mb S (2))).2)) (hF4 2 (by decide)) ?_
              refine g_calli (pc' := 129) rfl rfl rfl rfl (Or.inl rfl) ?_
              refine c_meet (o 1 (by decide)) (o 2 (by decide)) ?_
              rw [hst]
              refine g_istore (pc' := 131) rfl rfl rfl ?_
              refine g_aload_n (pc' := 132) rfl rfl rfl ?_
              refine g_iload (pc' := 134) rfl rfl rfl ?_
              refine g_aload_n (pc' := 135) rfl rfl rfl ?_
              refine g_iload (pc' := 137) rfl rfl rfl ?_
              refine g_iload (pc' := 139) rfl rfl rfl ?_
              refine g_calli (pc' := 142) rfl rfl rfl rfl (Or.inl rfl) ?_
              refine c_meet (me_ok (o 0 (by decide)) (o (1 + i) (by omega))).1 (me_ok (o 1 (by decide)) (o 2 (by decide))).1 ?_
              rw [hst]
              have eh : meP s (meP s (sc s (mb S 0)) (sc s (mb S (1 + i)))) (meP s (sc s (mb S 1)) (sc s (mb S 2))) = hlf s S i := by subst ei; rfl
              rw [eh]
              refine g_iast (pc' := 143) rfl rfl (a_23) (k := i) (by omega) rfl ?_
              refine g_iinc (pc' := 146) (v := nI (i + 1)) rfl rfl rfl (nI_1 i) rfl ?_
              refine g_goto (pc' := 54) rfl rfl ?_
              exact ih (i + 1) (am_wi m2.1 23 i (nI (4 * (hlf s S i).1 + (hlf s S i).2)), m2.2) _ _ _ _ _ (by omega) (hQ.w (Or.inr rfl)) (fun j hj => by show am_wi m2.1 23 i (nI (4 * (hlf s S i).1 + (hlf s S i).2)) 21 j = _; rw [am_wi_n (by decide)]; exact hF4 j hj) (fun w hw => by
                show am_wi m2.1 23 i (nI (4 * (hlf s S i).1 + (hlf s S i).2)) 23 w = _
                rw [am_wi_s]
                by_cases e : w = i
                · subst e; rw [upd_at]
                · rw [upd_ne e]; exact hW3 w (by omega))
          · refine g_iconst (pc' := 73) (v := 2) rfl rfl (by decide) ?_
            refine g_goto (pc' := 77) rfl rfl ?_
            refine g_istore (pc' := 79) rfl rfl rfl ?_
            refine g_iload (pc' := 81) rfl rfl rfl ?_
            refine g_iconst (pc' := 82) (v := 3) rfl rfl (by decide) ?_
            refine g_icmp_ne (pc' := 85) (t := 89) rfl rfl rfl (fun c_82 => ?_) (fun c_82 => ?_)
            · refine g_iconst (pc' := 90) (v := 3) rfl rfl (by decide) ?_
              refine g_istore (pc' := 92) rfl rfl rfl ?_
              have ei : i = 0 := by
                have a := (nI_eq (a := 1 + i) (b := 1) (by omega) (by decide)).mp c_69
                omega
              refine g_aload_n (pc' := 93) rfl rfl rfl ?_
              refine g_aload_n (pc' := 94) rfl rfl rfl ?_
              refine g_getr (pc' := 97) rfl rfl (f_0_0) ?_
              refine g_iconst (pc' := 98) (v := 0) rfl rfl (by decide) ?_
              refine g_iald (pc' := 99) rfl rfl (a_21) (k := 0) (by decide) rfl ?_
              refine g_vi (y := nI (4 * (sc s (mb S (0))).1 + (sc s (mb S (0))).2)) (hF4 0 (by decide)) ?_
              refine g_aload_n (pc' := 100) rfl rfl rfl ?_
              refine g_getr (pc' := 103) rfl rfl (f_0_0) ?_
              refine g_iload (pc' := 105) rfl rfl rfl ?_
              refine g_iald (pc' := 106) rfl rfl (a_21) (k := 1 + i) (by omega) rfl ?_
              refine g_vi (y := nI (4 * (sc s (mb S (1 + i))).1 + (sc s (mb S (1 + i))).2)) (hF4 (1 + i) (by omega)) ?_
              refine g_calli (pc' := 109) rfl rfl rfl rfl (Or.inl rfl) ?_
              refine c_meet (o 0 (by decide)) (o (1 + i) (by omega)) ?_
              rw [hst]
              refine g_istore (pc' := 111) rfl rfl rfl ?_
              refine g_aload_n (pc' := 112) rfl rfl rfl ?_
              refine g_aload_n (pc' := 113) rfl rfl rfl ?_
              refine g_getr (pc' := 116) rfl rfl (f_0_0) ?_
              refine g_iload (pc' := 118) rfl rfl rfl ?_
              refine g_iald (pc' := 119) rfl rfl (a_21) (k := 2) (by decide) rfl ?_
              refine g_vi (y := nI (4 * (sc s (mb S (2))).1 + (sc s (mb S (2))).2)) (hF4 2 (by decide)) ?_
              refine g_aload_n (pc' := 120) rfl rfl rfl ?_
              refine g_getr (pc' := 123) rfl rfl (f_0_0) ?_
              refine g_iload (pc' := 125) rfl rfl rfl ?_
              refine g_iald (pc' := 126) rfl rfl (a_21) (k := 3) (by decide) rfl ?_
              refine g_vi (y := nI (4 * (sc s (mb S (3))).1 + (sc s (mb S (3))).2)) (hF4 3 (by decide)) ?_
              refine g_calli (pc' := 129) rfl rfl rfl rfl (Or.inl rfl) ?_
              refine c_meet (o 2 (by decide)) (o 3 (by decide)) ?_
              rw [hst]
              refine g_istore (pc' := 131) rfl rfl rfl ?_
              refine g_aload_n (pc' := 132) rfl rfl rfl ?_
              refine g_iload (pc' := 134) rfl rfl rfl ?_
              refine g_aload_n (pc' := 135) rfl rfl rfl ?_
              refine g_iload (pc' := 137) rfl rfl rfl ?_
              refine g_iload (pc' := 139) rfl rfl rfl ?_
              refine g_calli (pc' := 142) rfl rfl rfl rfl (Or.inl rfl) ?_
              refine c_meet (me_ok (o 0 (by decide)) (o (1 + i) (by omega))).1 (me_ok (o 2 (by decide)) (o 3 (by decide))).1 ?_
              rw [hst]
              have eh : meP s (meP s (sc s (mb S 0)) (sc s (mb S (1 + i)))) (meP s (sc s (mb S 2)) (sc s (mb S 3))) = hlf s S i := by subst ei; rfl
              rw [eh]
              refine g_iast (pc' := 143) rfl rfl (a_23) (k := i) (by omega) rfl ?_
              refine g_iinc (pc' := 146) (v := nI (i + 1)) rfl rfl rfl (nI_1 i) rfl ?_
              refine g_goto (pc' := 54) rfl rfl ?_
              exact ih (i + 1) (am_wi m2.1 23 i (nI (4 * (hlf s S i).1 + (hlf s S i).2)), m2.2) _ _ _ _ _ (by omega) (hQ.w (Or.inr rfl)) (fun j hj => by show am_wi m2.1 23 i (nI (4 * (hlf s S i).1 + (hlf s S i).2)) 21 j = _; rw [am_wi_n (by decide)]; exact hF4 j hj) (fun w hw => by
                show am_wi m2.1 23 i (nI (4 * (hlf s S i).1 + (hlf s S i).2)) 23 w = _
                rw [am_wi_s]
                by_cases e : w = i
                · subst e; rw [upd_at]
                · rw [upd_ne e]; exact hW3 w (by omega))
            · refine g_iconst (pc' := 86) (v := 2) rfl rfl (by decide) ?_
              refine g_goto (pc' := 90) rfl rfl ?_
              refine g_istore (pc' := 92) rfl rfl rfl ?_
              exact absurd (c_69.symm.trans c_82) (by decide)
      exact loop2 3 0 m1 _ _ _ _ _ rfl hQ hF4 (fun w hw => absurd hw (Nat.not_lt_zero _))
    | succ d ih =>
      intro i m1 v6 v7 v8 v9 v10 hd hQ hF4
      have hlt : i < 8 := by omega
      refine g_iload (pc' := 8) rfl rfl rfl ?_
      refine g_bipush (pc' := 10) (v := 8) rfl rfl (by decide) ?_
      refine g_icmp_ge (pc' := 13) (t := 51) rfl rfl rfl (fun c_10 => absurd c_10 (nI_ge (b := 8) hlt (by decide))) (fun c_10 => ?_)
      refine g_iload_n (pc' := 14) rfl rfl rfl ?_
      refine g_iload (pc' := 16) rfl rfl rfl ?_
      refine g_ishr (pc' := 17) rfl rfl ?_
      refine g_iconst (pc' := 18) (v := 1) rfl rfl (by decide) ?_
      refine g_iand (pc' := 19) rfl rfl ?_
      refine g_iconst (pc' := 20) (v := 1) rfl rfl (by decide) ?_
      refine g_icmp_ne (pc' := 23) (t := 45) rfl rfl rfl (fun c_20 => ?_) (fun c_20 => ?_)
      · have hb0 := fun z => c_20 ((has_nI (by omega) (by omega)).mpr z)
        have e1 := cnt_s S i
        rw [if_neg hb0] at e1
        refine g_iinc (pc' := 48) (v := nI (i + 1)) rfl rfl rfl (nI_1 i) rfl ?_
        refine g_goto (pc' := 6) rfl rfl ?_
        have hh := ih (i + 1) m1 v6 v7 v8 v9 v10 (by omega) hQ (by rw [e1]; exact hF4)
        rw [e1] at hh
        exact hh
      · have hb1 := (has_nI (by omega) (by omega)).mp c_20
        have e1 := cnt_s S i
        rw [if_pos hb1] at e1
        have e2 := cnt_mono S (i + 1) (7 - i)
        rw [show i + 1 + (7 - i) = 8 by omega, c8] at e2
        have ok := sc_ok hW hlt hb
        refine g_iload (pc' := 25) rfl rfl rfl ?_
        refine g_iconst (pc' := 26) (v := 4) rfl rfl (by decide) ?_
        refine g_icmp_ge (pc' := 29) (t := 45) rfl rfl rfl (fun c_26 => absurd c_26 (nI_ge (b := 4) (by omega) (by decide))) (fun c_26 => ?_)
        refine g_aload_n (pc' := 30) rfl rfl rfl ?_
        refine g_getr (pc' := 33) rfl rfl (f_0_0) ?_
        refine g_iload (pc' := 35) rfl rfl rfl ?_
        refine g_aload_n (pc' := 36) rfl rfl rfl ?_
        refine g_iload (pc' := 38) rfl rfl rfl ?_
        refine g_calli (pc' := 41) rfl rfl rfl rfl (Or.inr (rc_S isS_2)) ?_
        refine c_fighterOf (c := (sc s i).2) isS_2 (by omega) (by rw [(hQ.fr (by decide) (by decide)).st (p := 2) (by omega), hs]; exact ok.2) ?_
        refine g_iast (pc' := 42) rfl rfl (a_21) (k := cnt S i) (by omega) rfl ?_
        refine g_iinc (pc' := 45) (v := nI (cnt S i + 1)) rfl rfl rfl (nI_1 _) rfl ?_
        refine g_iinc (pc' := 48) (v := nI (i + 1)) rfl rfl rfl (nI_1 i) rfl ?_
        refine g_goto (pc' := 6) rfl rfl ?_
        have hh := ih (i + 1) (am_wi m1.1 21 (cnt S i) (nI (4 * i + (sc s i).2)), m1.2) v6 v7 v8 v9 v10 (by omega) (hQ.w (Or.inl rfl)) (by
          rw [e1]
          intro j hj
          show am_wi m1.1 21 (cnt S i) (nI (4 * i + (sc s i).2)) 21 j = _
          rw [am_wi_s]
          by_cases e : j = cnt S i
          · subst e; rw [upd_at, cnt_k S hS8 i hlt hb1]; rfl
          · rw [upd_ne e]; exact hF4 j (by omega))
        rw [e1] at hh
        exact hh
  refine g_iconst (pc' := 1) (v := 0) rfl rfl (by decide) ?_
  refine g_istore (pc' := 3) rfl rfl rfl ?_
  refine g_iconst (pc' := 4) (v := 0) rfl rfl (by decide) ?_
  refine g_istore (pc' := 6) rfl rfl rfl ?_
  exact loop 8 0 m _ _ _ _ _ rfl CQ.rf (fun j hj => absurd hj (Nat.not_lt_zero _))
theorem c_split {s : aStr} {S Mx x : Nat} (hs : stAt m 2 = s) (hx : x < 8) (hS8 : S < 256) (h4 : pcN S = 4) (hW : WFs Mx s) (hb : ∀ k, k < 8 → ¬ sC s k = 3) (h : ∀ m', Fr 21 24 m m' → K (nI (wcN s S x)) m') : gCi X 3 [.ref 20, .ref 2, .int (nI S), .int (nI x)] m K := by
  refine g_inI rfl ?_
  obtain ⟨k4, kb⟩ := co_k S hS8 h4
  refine g_aload_n (pc' := 1) rfl rfl rfl ?_
  refine g_aload_n (pc' := 2) rfl rfl rfl ?_
  refine g_iload_n (pc' := 3) rfl rfl rfl ?_
  refine g_aload_n (pc' := 4) rfl rfl rfl ?_
  refine g_getr (pc' := 7) rfl rfl (f_0_1) ?_
  refine g_callv (pc' := 10) rfl rfl rfl rfl (Or.inr rfl) ?_
  refine c_fill22 hs hS8 h4 hW hb (fun m1 q1 w1 => ?_)
  refine g_aload_n (pc' := 11) rfl rfl rfl ?_
  refine g_aload_n (pc' := 12) rfl rfl rfl ?_
  refine g_sipush (pc' := 15) (v := 255) rfl rfl (by decide) ?_
  refine g_iload_n (pc' := 16) rfl rfl rfl ?_
  refine g_isub (pc' := 17) rfl rfl ?_
  refine g_vi (y := nI (255 - S)) (co_s S hS8) ?_
  refine g_aload_n (pc' := 18) rfl rfl rfl ?_
  refine g_getr (pc' := 21) rfl rfl (f_0_2) ?_
  refine g_callv (pc' := 24) rfl rfl rfl rfl (Or.inr rfl) ?_
  refine c_fill23 (s := s) (((q1.fr (by decide) (by decide)).st (p := 2) (by omega)).trans hs) (by omega) k4 hW hb (fun m3 q3 w3 => ?_)
  have w2 : W3 m3 22 s S 3 := fun w hw => by rw [q3.1 22 (by decide) (by decide)]; exact w1 w hw
  have f3 : Fr 21 24 m m3 := (q1.fr (by decide) (by decide)).tr (q3.fr (by decide) (by decide))
  have hst : stAt m3 2 = s := (f3.st (p := 2) (by omega)).trans hs
  refine g_iconst (pc' := 25) (v := 0) rfl rfl (by decide) ?_
  refine g_istore (pc' := 27) rfl rfl rfl ?_
  refine g_iconst (pc' := 28) (v := 0) rfl rfl (by decide) ?_
  refine g_istore (pc' := 30) rfl rfl rfl ?_
  have loop : ∀ (d i : Nat) (v6 v7 : Value), i + d = 3 → gG X 3 30 [.ref 20, .ref 2, .int (nI S), .int (nI x), .int (nI (fN (wcS s S x) (3 * i) 0)), .int (nI i), v6, v7] [] m3 (fun r m' => ∃ v, r = some (.int v) ∧ K v m') := by
    intro d
    induction d with
    | zero =>
      intro i v6 v7 hd
      have hi : i = 3 := by omega
      subst hi
      refine g_iload (pc' := 32) rfl rfl rfl ?_
      refine g_iconst (pc' := 33) (v := 3) rfl rfl (by decide) ?_
      refine g_icmp_ge (pc' := 36) (t := 89) rfl rfl rfl (fun c_33 => ?_) (fun c_33 => absurd (by decide) c_33)
      refine g_iload (pc' := 91) rfl rfl rfl ?_
      exact g_ireturn rfl rfl (h m3 f3)
    | succ d ih =>
      intro i v6 v7 hd
      have hlt : i < 3 := by omega
      refine g_iload (pc' := 32) rfl rfl rfl ?_
      refine g_iconst (pc' := 33) (v := 3) rfl rfl (by decide) ?_
      refine g_icmp_ge (pc' := 36) (t := 89) rfl rfl rfl (fun c_33 => absurd c_33 (nI_ge (b := 3) hlt (by decide))) (fun c_33 => ?_)
      refine g_iconst (pc' := 37) (v := 0) rfl rfl (by decide) ?_
      refine g_istore (pc' := 39) rfl rfl rfl ?_
      have hltO := hlt
      have ihO := ih
      have loop2 : ∀ (d2 i2 : Nat) (v7 : Value), i2 + d2 = 3 → gG X 3 39 [.ref 20, .ref 2, .int (nI S), .int (nI x), .int (nI (fN (wcS s S x) (3 * i + i2) 0)), .int (nI i), .int (nI i2), v7] [] m3 (fun r m' => ∃ v, r = some (.int v) ∧ K v m') := by
        intro d2
        induction d2 with
        | zero =>
          intro i2 v7 hd2
          have hi : i2 = 3 := by omega
          subst hi
          refine g_iload (pc' := 41) rfl rfl rfl ?_
          refine g_iconst (pc' := 42) (v := 3) rfl rfl (by decide) ?_
          refine g_icmp_ge (pc' := 45) (t := 83) rfl rfl rfl (fun c_42 => ?_) (fun c_42 => absurd (by decide) c_42)
          refine g_iinc (pc' := 86) (v := nI (i + 1)) rfl rfl rfl (nI_1 i) rfl ?_
          refine g_goto (pc' := 30) rfl rfl ?_
          exact ihO (i + 1) _ _ (by omega)
        | succ d2 ih =>
          intro i2 v7 hd2
          have hlt : i2 < 3 := by omega
          refine g_iload (pc' := 41) rfl rfl rfl ?_
          refine g_iconst (pc' := 42) (v := 3) rfl rfl (by decide) ?_
          refine g_icmp_ge (pc' := 45) (t := 83) rfl rfl rfl (fun c_42 => absurd c_42 (nI_ge (b := 3) hlt (by decide))) (fun c_42 => ?_)
          refine g_aload_n (pc' := 46) rfl rfl rfl ?_
          refine g_aload_n (pc' := 47) rfl rfl rfl ?_
          refine g_getr (pc' := 50) rfl rfl (f_0_1) ?_
          refine g_iload (pc' := 52) rfl rfl rfl ?_
          refine g_iald (pc' := 53) rfl rfl (a_22) hltO rfl ?_
          refine g_vi (y := nI (4 * (hlf s S i).1 + (hlf s S i).2)) (w2 i hltO) ?_
          refine g_aload_n (pc' := 54) rfl rfl rfl ?_
          refine g_getr (pc' := 57) rfl rfl (f_0_2) ?_
          refine g_iload (pc' := 59) rfl rfl rfl ?_
          refine g_iald (pc' := 60) rfl rfl (a_23) hlt rfl ?_
          refine g_vi (y := nI (4 * (hlf s (255 - S) i2).1 + (hlf s (255 - S) i2).2)) (w3 i2 hlt) ?_
          refine g_calli (pc' := 63) rfl rfl rfl rfl (Or.inl rfl) ?_
          refine c_meet (hl_ok hW hb hS8 h4 hltO).1 (hl_ok hW hb (by omega) k4 hlt).1 ?_
          rw [hst]
          obtain ⟨o31, o32⟩ := (me_ok (s := s) (hl_ok hW hb hS8 h4 hltO).1 (hl_ok hW hb (show 255 - S < 256 by omega) k4 hlt).1).1
          refine g_istore (pc' := 65) rfl rfl rfl ?_
          refine g_iload (pc' := 67) rfl rfl rfl ?_
          refine g_calli (pc' := 70) rfl rfl rfl rfl (Or.inl rfl) ?_
          refine c_nutOf (by omega) (by omega) ?_
          refine g_iload_n (pc' := 71) rfl rfl rfl ?_
          refine g_icmp_ne (pc' := 74) (t := 77) rfl rfl rfl (fun c_71 => ?_) (fun c_71 => ?_)
          · refine g_iinc (pc' := 80) (v := nI (i2 + 1)) rfl rfl rfl (nI_1 i2) rfl ?_
            refine g_goto (pc' := 39) rfl rfl ?_
            have e : fN (wcS s S x) (3 * i + i2 + 1) 0 = fN (wcS s S x) (3 * i + i2) 0 := by rw [fN, wcS, show (3 * i + i2) / 3 = i by omega, show (3 * i + i2) % 3 = i2 by omega, if_neg (fun z => c_71 (by rw [z]))]
            have hh := ih (i2 + 1)
            rw [← Nat.add_assoc, e] at hh
            exact hh _ (by omega)
          · refine g_iinc (pc' := 77) (v := nI (fN (wcS s S x) (3 * i + i2) 0 + 1)) rfl rfl rfl (nI_1 _) rfl ?_
            refine g_iinc (pc' := 80) (v := nI (i2 + 1)) rfl rfl rfl (nI_1 i2) rfl ?_
            refine g_goto (pc' := 39) rfl rfl ?_
            have e : fN (wcS s S x) (3 * i + i2 + 1) 0 = fN (wcS s S x) (3 * i + i2) 0 + 1 := by rw [fN, wcS, show (3 * i + i2) / 3 = i by omega, show (3 * i + i2) % 3 = i2 by omega, if_pos ((nI_eq (by omega) (by omega)).mp c_71)]
            have hh := ih (i2 + 1)
            rw [← Nat.add_assoc, e] at hh
            exact hh _ (by omega)
      exact loop2 3 0 _ rfl
  exact loop 3 0 _ _ rfl
end K4
