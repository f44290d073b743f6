/-! CUPS: who is left of four, the model -/
section K2
variable {X : aX} {m : aMem} {A : aA} {K : Int32 → aMem → Prop}
def SQ (m m' : aMem) : Prop := (∀ q, q ≠ 53 → q ≠ 67 → m'.1 q = m.1 q) ∧ m'.2 = m.2 ∧ ∀ i, (i < 22 ∨ 24 < i) → m'.1 53 i = m.1 53 i
theorem SQ.rf : SQ m m := ⟨fun _ _ _ => rfl, rfl, fun _ _ => rfl⟩
theorem SQ.sl {m1 m2 : aMem} (h : SQ m m1) (h' : SL m1 m2) : SQ m m2 := ⟨fun q a b => (h'.1 q a).trans (h.1 q a b), h'.2.1.trans h.2.1, fun i a => (h'.2.2 i a).trans (h.2.2 i a)⟩
theorem SQ.tr {m1 m2 : aMem} (h : SQ m m1) (h' : SQ m1 m2) : SQ m m2 := ⟨fun q a b => (h'.1 q a b).trans (h.1 q a b), h'.2.1.trans h.2.1, fun i a => (h'.2.2 i a).trans (h.2.2 i a)⟩
theorem SQ.w {m1 : aMem} {k : Nat} {v : Int32} (h : SQ m m1) : SQ m (am_wi m1.1 67 k v, m1.2) := ⟨fun q a b => by show am_wi m1.1 67 k v q = _; rw [am_wi_n b]; exact h.1 q a b, h.2.1, fun i a => by show am_wi m1.1 67 k v 53 i = _; rw [am_wi_n (by decide)]; exact h.2.2 i a⟩
theorem SQ.st {m' : aMem} (h : SQ m m') : stAt m' 53 = stAt m 53 := by
  unfold stAt
  rw [h.2.2 5 (by decide), h.1 (53 + 1) (by decide) (by decide), h.1 (53 + 2) (by decide) (by decide), h.1 (53 + 3) (by decide) (by decide), h.1 (53 + 4) (by decide) (by decide), h.1 (53 + 5) (by decide) (by decide)]
def F4 (m : aMem) (s : aStr) (S n : Nat) : Prop := ∀ j, j < n → m.1 67 j = nI (10 * (sc s (mb S j)).1 + (sc s (mb S j)).2)
theorem sc_ok {Mx : Nat} {s : aStr} {a : Nat} (hW : WFs Mx s) (ha : a < 8) (hb : ∀ k, k < 8 → ¬ sC s k = 3) : okF (sc s a) ∧ sC s a = nI (sc s a).2 := by
  obtain ⟨c, hc, e⟩ := hW.live (show a < 10 by omega) (hb a ha)
  unfold sc okF
  rw [e, ix_nI (by omega)]
  exact ⟨⟨by show a < 10; omega, hc⟩, rfl⟩
theorem d_leftOf0 {S Mx : Nat} (hS8 : S < 256) (h4 : pcN S = 4) (hW : WFs Mx (stAt m 53)) (hb : ∀ k, k < 8 → ¬ sC (stAt m 53) k = 3) (h : ∀ m', SQ m m' → K (nI (10 * (hlf (stAt m 53) S 0).1 + (hlf (stAt m 53) S 0).2)) m') : gCi X 150 [.ref 53, .int (nI S), .int 0] m K := by
  refine g_inI rfl ?_
  have c8 := cnt_8 S hS8
  rw [h4] at c8
  have loop : ∀ (d i : Nat) (m1 : aMem) (v5 : Value), i + d = 8 → SQ m m1 → F4 m1 (stAt m 53) S (cnt S i) → gG X 150 5 [.ref 53, .int (nI S), .int 0, .int (nI (cnt S i)), .int (nI i), v5] [] m1 (fun r m' => ∃ v, r = some (.int v) ∧ K v m') := by
    intro d
    induction d with
    | zero =>
      intro i m1 v5 hd hS hF4
      have hi : i = 8 := by omega
      subst hi
      refine g_iload (pc' := 7) rfl rfl rfl ?_
      refine g_bipush (pc' := 9) (v := 8) rfl rfl (by decide) ?_
      refine g_icmp_ge (pc' := 12) (t := 49) rfl rfl rfl (fun c_9 => ?_) (fun c_9 => absurd (by decide) c_9)
      rw [c8] at hF4
      have q0 := mb_k S hS8 h4 0 (by decide)
      have q1 := mb_k S hS8 h4 1 (by decide)
      have q2 := mb_k S hS8 h4 2 (by decide)
      have q3 := mb_k S hS8 h4 3 (by decide)
      have n01 : (sc (stAt m 53) (mb S 0)).1 ≠ (sc (stAt m 53) (mb S 1)).1 := Nat.ne_of_lt (q1.2.2 0 (by decide))
      have n10 := n01.symm
      have n02 : (sc (stAt m 53) (mb S 0)).1 ≠ (sc (stAt m 53) (mb S 2)).1 := Nat.ne_of_lt (q2.2.2 0 (by decide))
      have n20 := n02.symm
      have n03 : (sc (stAt m 53) (mb S 0)).1 ≠ (sc (stAt m 53) (mb S 3)).1 := Nat.ne_of_lt (q3.2.2 0 (by decide))
      have n30 := n03.symm
      have n12 : (sc (stAt m 53) (mb S 1)).1 ≠ (sc (stAt m 53) (mb S 2)).1 := Nat.ne_of_lt (q2.2.2 1 (by decide))
      have n21 := n12.symm
      have n13 : (sc (stAt m 53) (mb S 1)).1 ≠ (sc (stAt m 53) (mb S 3)).1 := Nat.ne_of_lt (q3.2.2 1 (by decide))
      have n31 := n13.symm
      have n23 : (sc (stAt m 53) (mb S 2)).1 ≠ (sc (stAt m 53) (mb S 3)).1 := Nat.ne_of_lt (q3.2.2 2 (by decide))
      have n32 := n23.symm
      refine g_iload_n (pc' := 50) rfl rfl rfl ?_
      refine g_if_ne (pc' := 53) (t := 57) rfl rfl rfl (fun c => absurd c (by decide)) (fun _ => ?_)
      refine g_iconst (pc' := 54) (v := 2) rfl rfl (by decide) ?_
      refine g_goto (pc' := 58) rfl rfl ?_
      refine g_istore (pc' := 60) rfl rfl rfl ?_
      refine g_iload_n (pc' := 61) rfl rfl rfl ?_
      refine g_iconst (pc' := 62) (v := 2) rfl rfl (by decide) ?_
      refine g_icmp_ne (pc' := 65) (t := 69) rfl rfl rfl (fun _ => ?_) (fun c => absurd c (by decide))
      refine g_iconst (pc' := 70) (v := 3) rfl rfl (by decide) ?_
      refine g_istore (pc' := 72) rfl rfl rfl ?_
      refine g_aload_n (pc' := 73) rfl rfl rfl ?_
      refine g_aload_n (pc' := 74) rfl rfl rfl ?_
      refine g_aload_n (pc' := 75) rfl rfl rfl ?_
      refine g_getr (pc' := 78) rfl rfl (f_11_26) ?_
      refine g_iconst (pc' := 79) (v := 0) rfl rfl (by decide) ?_
      refine g_iald (pc' := 80) rfl rfl (a_67) (k := 0) (by decide) rfl ?_
      refine g_vi (y := nI (10 * (sc (stAt m 53) (mb S 0)).1 + (sc (stAt m 53) (mb S 0)).2)) (hF4 0 (by decide)) ?_
      refine g_aload_n (pc' := 81) rfl rfl rfl ?_
      refine g_getr (pc' := 84) rfl rfl (f_11_26) ?_
      refine g_iconst (pc' := 85) (v := 1) rfl rfl (by decide) ?_
      refine g_iload_n (pc' := 86) rfl rfl rfl ?_
      refine g_iadd (pc' := 87) rfl rfl ?_
      refine g_vi (y := 1) (by decide) ?_
      refine g_iald (pc' := 88) rfl rfl (a_67) (k := 1) (by decide) rfl ?_
      refine g_vi (y := nI (10 * (sc (stAt m 53) (mb S 1)).1 + (sc (stAt m 53) (mb S 1)).2)) (hF4 1 (by decide)) ?_
      refine g_calli (pc' := 91) rfl rfl rfl rfl (Or.inr rfl) ?_
      refine d_meet (sc_ok hW (q0).1 hb).1 (sc_ok hW (q1).1 hb).1 n01 (fun m2 s2 => ?_)
      rw [hS.st]
      have t2 := hS.sl s2
      refine g_aload_n (pc' := 92) rfl rfl rfl ?_
      refine g_aload_n (pc' := 93) rfl rfl rfl ?_
      refine g_getr (pc' := 96) rfl rfl (f_11_26) ?_
      refine g_iload (pc' := 98) rfl rfl rfl ?_
      refine g_iald (pc' := 99) rfl rfl (a_67) (k := 2) (by decide) rfl ?_
      refine g_vi (y := nI (10 * (sc (stAt m 53) (mb S 2)).1 + (sc (stAt m 53) (mb S 2)).2)) (by rw [s2.1 67 (by decide)]; exact hF4 2 (by decide)) ?_
      refine g_aload_n (pc' := 100) rfl rfl rfl ?_
      refine g_getr (pc' := 103) rfl rfl (f_11_26) ?_
      refine g_iload (pc' := 105) rfl rfl rfl ?_
      refine g_iald (pc' := 106) rfl rfl (a_67) (k := 3) (by decide) rfl ?_
      refine g_vi (y := nI (10 * (sc (stAt m 53) (mb S 3)).1 + (sc (stAt m 53) (mb S 3)).2)) (by rw [s2.1 67 (by decide)]; exact hF4 3 (by decide)) ?_
      refine g_calli (pc' := 109) rfl rfl rfl rfl (Or.inr rfl) ?_
      refine d_meet (sc_ok hW (q2).1 hb).1 (sc_ok hW (q3).1 hb).1 n23 (fun m3 s3 => ?_)
      rw [t2.st]
      have t3 := t2.sl s3
      refine g_calli (pc' := 112) rfl rfl rfl rfl (Or.inr rfl) ?_
      refine d_meet (me_ok (sc_ok hW (q0).1 hb).1 (sc_ok hW (q1).1 hb).1).1 (me_ok (sc_ok hW (q2).1 hb).1 (sc_ok hW (q3).1 hb).1).1 (by rcases (me_ok (s := stAt m 53) (sc_ok hW (q0).1 hb).1 (sc_ok hW (q1).1 hb).1).2 with z1 | z1 <;> rcases (me_ok (s := stAt m 53) (sc_ok hW (q2).1 hb).1 (sc_ok hW (q3).1 hb).1).2 with z2 | z2 <;> rw [z1, z2] <;> assumption) (fun m4 s4 => ?_)
      rw [t3.st]
      exact g_ireturn rfl rfl (h m4 (t3.sl s4))
    | succ d ih =>
      intro i m1 v5 hd hS hF4
      have hlt : i < 8 := by omega
      refine g_iload (pc' := 7) rfl rfl rfl ?_
      refine g_bipush (pc' := 9) (v := 8) rfl rfl (by decide) ?_
      refine g_icmp_ge (pc' := 12) (t := 49) rfl rfl rfl (fun c_9 => absurd c_9 (nI_ge (b := 8) hlt (by decide))) (fun c_9 => ?_)
      refine g_iload_n (pc' := 13) rfl rfl rfl ?_
      refine g_iload (pc' := 15) rfl rfl rfl ?_
      refine g_calli (pc' := 18) rfl rfl rfl rfl (Or.inl rfl) ?_
      refine d_has (by omega) (by omega) (fun hb1 => ?_) (fun hb0 => ?_)
      · refine g_if_eq (pc' := 21) (t := 43) rfl rfl rfl (fun c => absurd c (by decide)) (fun _ => ?_)
        have e1 := cnt_s S i
        rw [if_pos hb1] at e1
        have e2 := cnt_mono S (i + 1) (7 - i)
        rw [show i + 1 + (7 - i) = 8 by omega, c8] at e2
        have ok := sc_ok hW hlt hb
        refine g_aload_n (pc' := 22) rfl rfl rfl ?_
        refine g_getr (pc' := 25) rfl rfl (f_11_26) ?_
        refine g_iload_n (pc' := 26) rfl rfl rfl ?_
        refine g_bipush (pc' := 28) (v := 10) rfl rfl (by decide) ?_
        refine g_iload (pc' := 30) rfl rfl rfl ?_
        refine g_imul (pc' := 31) rfl rfl ?_
        refine g_vi (y := nI (10 * i)) (pk_mul 10 i) ?_
        refine g_aload_n (pc' := 32) rfl rfl rfl ?_
        refine g_getr (pc' := 35) rfl rfl (f_11_1) ?_
        refine g_iload (pc' := 37) rfl rfl rfl ?_
        refine g_iald (pc' := 38) rfl rfl (a_55) (k := i) (by omega) rfl ?_
        refine g_vi (y := nI (sc (stAt m 53) i).2) (by rw [r_C (by omega), hS.st]; exact ok.2) ?_
        refine g_iadd (pc' := 39) rfl rfl ?_
        refine g_vi (y := nI (10 * i + (sc (stAt m 53) i).2)) (nI_add _ _) ?_
        refine g_iast (pc' := 40) rfl rfl (a_67) (k := cnt S i) (by omega) rfl ?_
        refine g_iinc (pc' := 43) (v := nI (cnt S i + 1)) rfl rfl rfl (nI_1 _) rfl ?_
        refine g_iinc (pc' := 46) (v := nI (i + 1)) rfl rfl rfl (nI_1 i) rfl ?_
        refine g_goto (pc' := 5) rfl rfl ?_
        have hh := ih (i + 1) (am_wi m1.1 67 (cnt S i) (nI (10 * i + (sc (stAt m 53) i).2)), m1.2) v5 (by omega) hS.w (by
          rw [e1]
          intro j hj
          show am_wi m1.1 67 (cnt S i) (nI (10 * i + (sc (stAt m 53) i).2)) 67 j = _
          rw [am_wi_s]
          by_cases e : j = cnt S i
          · subst e; rw [upd_at, cnt_k S hS8 i hlt hb1]; rfl
          · rw [upd_ne e]; exact hF4 j (by omega))
        rw [e1] at hh
        exact hh
      · refine g_if_eq (pc' := 21) (t := 43) rfl rfl rfl (fun _ => ?_) (fun c => absurd c (by decide))
        refine g_iinc (pc' := 46) (v := nI (i + 1)) rfl rfl rfl (nI_1 i) rfl ?_
        refine g_goto (pc' := 5) rfl rfl ?_
        have e1 := cnt_s S i
        rw [if_neg (by rw [hb0]; decide)] at e1
        have hh := ih (i + 1) m1 v5 (by omega) hS (by rw [e1]; exact hF4)
        rw [e1] at hh
        exact hh
  refine g_iconst (pc' := 1) (v := 0) rfl rfl (by decide) ?_
  refine g_istore_n (pc' := 2) rfl rfl rfl ?_
  refine g_iconst (pc' := 3) (v := 0) rfl rfl (by decide) ?_
  refine g_istore (pc' := 5) rfl rfl rfl ?_
  exact loop 8 0 m _ rfl SQ.rf (fun j hj => absurd hj (Nat.not_lt_zero _))
theorem d_leftOf1 {S Mx : Nat} (hS8 : S < 256) (h4 : pcN S = 4) (hW : WFs Mx (stAt m 53)) (hb : ∀ k, k < 8 → ¬ sC (stAt m 53) k = 3) (h : ∀ m', SQ m m' → K (nI (10 * (hlf (stAt m 53) S 1).1 + (hlf (stAt m 53) S 1).2)) m') : gCi X 150 [.ref 53, .int (nI S), .int 1] m K := by
  refine g_inI rfl ?_
  have c8 := cnt_8 S hS8
  rw [h4] at c8
  have loop : ∀ (d i : Nat) (m1 : aMem) (v5 : Value), i + d = 8 → SQ m m1 → F4 m1 (stAt m 53) S (cnt S i) → gG X 150 5 [.ref 53, .int (nI S), .int 1, .int (nI (cnt S i)), .int (nI i), v5] [] m1 (fun r m' => ∃ v, r = some (.int v) ∧ K v m') := by
    intro d
    induction d with
    | zero =>
      intro i m1 v5 hd hS hF4
      have hi : i = 8 := by omega
      subst hi
      refine g_iload (pc' := 7) rfl rfl rfl ?_
      refine g_bipush (pc' := 9) (v := 8) rfl rfl (by decide) ?_
      refine g_icmp_ge (pc' := 12) (t := 49) rfl rfl rfl (fun c_9 => ?_) (fun c_9 => absurd (by decide) c_9)
      rw [c8] at hF4
      have q0 := mb_k S hS8 h4 0 (by decide)
      have q1 := mb_k S hS8 h4 1 (by decide)
      have q2 := mb_k S hS8 h4 2 (by decide)
      have q3 := mb_k S hS8 h4 3 (by decide)
      have n01 : (sc (stAt m 53) (mb S 0)).1 ≠ (sc (stAt m 53) (mb S 1)).1 := Nat.ne_of_lt (q1.2.2 0 (by decide))
      have n10 := n01.symm
      have n02 : (sc (stAt m 53) (mb S 0)).1 ≠ (sc (stAt m 53) (mb S 2)).1 := Nat.ne_of_lt (q2.2.2 0 (by decide))
      have n20 := n02.symm
      have n03 : (sc (stAt m 53) (mb S 0)).1 ≠ (sc (stAt m 53) (mb S 3)).1 := Nat.ne_of_lt (q3.2.2 0 (by decide))
      have n30 := n03.symm
      have n12 : (sc (stAt m 53) (mb S 1)).1 ≠ (sc (stAt m 53) (mb S 2)).1 := Nat.ne_of_lt (q2.2.2 1 (by decide))
      have n21 := n12.symm
      have n13 : (sc (stAt m 53) (mb S 1)).1 ≠ (sc (stAt m 53) (mb S 3)).1 := Nat.ne_of_lt (q3.2.2 1 (by decide))
      have n31 := n13.symm
      have n23 : (sc (stAt m 53) (mb S 2)).1 ≠ (sc (stAt m 53) (mb S 3)).1 := Nat.ne_of_lt (q3.2.2 2 (by decide))
      have n32 := n23.symm
      refine g_iload_n (pc' := 50) rfl rfl rfl ?_
      refine g_if_ne (pc' := 53) (t := 57) rfl rfl rfl (fun _ => ?_) (fun c => absurd c (by decide))
      refine g_iconst (pc' := 58) (v := 1) rfl rfl (by decide) ?_
      refine g_istore (pc' := 60) rfl rfl rfl ?_
      refine g_iload_n (pc' := 61) rfl rfl rfl ?_
      refine g_iconst (pc' := 62) (v := 2) rfl rfl (by decide) ?_
      refine g_icmp_ne (pc' := 65) (t := 69) rfl rfl rfl (fun _ => ?_) (fun c => absurd c (by decide))
      refine g_iconst (pc' := 70) (v := 3) rfl rfl (by decide) ?_
      refine g_istore (pc' := 72) rfl rfl rfl ?_
      refine g_aload_n (pc' := 73) rfl rfl rfl ?_
      refine g_aload_n (pc' := 74) rfl rfl rfl ?_
      refine g_aload_n (pc' := 75) rfl rfl rfl ?_
      refine g_getr (pc' := 78) rfl rfl (f_11_26) ?_
      refine g_iconst (pc' := 79) (v := 0) rfl rfl (by decide) ?_
      refine g_iald (pc' := 80) rfl rfl (a_67) (k := 0) (by decide) rfl ?_
      refine g_vi (y := nI (10 * (sc (stAt m 53) (mb S 0)).1 + (sc (stAt m 53) (mb S 0)).2)) (hF4 0 (by decide)) ?_
      refine g_aload_n (pc' := 81) rfl rfl rfl ?_
      refine g_getr (pc' := 84) rfl rfl (f_11_26) ?_
      refine g_iconst (pc' := 85) (v := 1) rfl rfl (by decide) ?_
      refine g_iload_n (pc' := 86) rfl rfl rfl ?_
      refine g_iadd (pc' := 87) rfl rfl ?_
      refine g_vi (y := 2) (by decide) ?_
      refine g_iald (pc' := 88) rfl rfl (a_67) (k := 2) (by decide) rfl ?_
      refine g_vi (y := nI (10 * (sc (stAt m 53) (mb S 2)).1 + (sc (stAt m 53) (mb S 2)).2)) (hF4 2 (by decide)) ?_
      refine g_calli (pc' := 91) rfl rfl rfl rfl (Or.inr rfl) ?_
      refine d_meet (sc_ok hW (q0).1 hb).1 (sc_ok hW (q2).1 hb).1 n02 (fun m2 s2 => ?_)
      rw [hS.st]
      have t2 := hS.sl s2
      refine g_aload_n (pc' := 92) rfl rfl rfl ?_
      refine g_aload_n (pc' := 93) rfl rfl rfl ?_
      refine g_getr (pc' := 96) rfl rfl (f_11_26) ?_
      refine g_iload (pc' := 98) rfl rfl rfl ?_
      refine g_iald (pc' := 99) rfl rfl (a_67) (k := 1) (by decide) rfl ?_
      refine g_vi (y := nI (10 * (sc (stAt m 53) (mb S 1)).1 + (sc (stAt m 53) (mb S 1)).2)) (by rw [s2.1 67 (by decide)]; exact hF4 1 (by decide)) ?_
      refine g_aload_n (pc' := 100) rfl rfl rfl ?_
      refine g_getr (pc' := 103) rfl rfl (f_11_26) ?_
      refine g_iload (pc' := 105) rfl rfl rfl ?_
      refine g_iald (pc' := 106) rfl rfl (a_67) (k := 3) (by decide) rfl ?_
      refine g_vi (y := nI (10 * (sc (stAt m 53) (mb S 3)).1 + (sc (stAt m 53) (mb S 3)).2)) (by rw [s2.1 67 (by decide)]; exact hF4 3 (by decide)) ?_
      refine g_calli (pc' := 109) rfl rfl rfl rfl (Or.inr rfl) ?_
      refine d_meet (sc_ok hW (q1).1 hb).1 (sc_ok hW (q3).1 hb).1 n13 (fun m3 s3 => ?_)
      rw [t2.st]
      have t3 := t2.sl s3
      refine g_calli (pc' := 112) rfl rfl rfl rfl (Or.inr rfl) ?_
      refine d_meet (me_ok (sc_ok hW (q0).1 hb).1 (sc_ok hW (q2).1 hb).1).1 (me_ok (sc_ok hW (q1).1 hb).1 (sc_ok hW (q3).1 hb).1).1 (by rcases (me_ok (s := stAt m 53) (sc_ok hW (q0).1 hb).1 (sc_ok hW (q2).1 hb).1).2 with z1 | z1 <;> rcases (me_ok (s := stAt m 53) (sc_ok hW (q1).1 hb).1 (sc_ok hW (q3).1 hb).1).2 with z2 | z2 <;> rw [z1, z2] <;> assumption) (fun m4 s4 => ?_)
      rw [t3.st]
      exact g_ireturn rfl rfl (h m4 (t3.sl s4))
    | succ d ih =>
      intro i m1 v5 hd hS hF4
      have hlt : i < 8 := by omega
      refine g_iload (pc' := 7) rfl rfl rfl ?_
      refine g_bipush (pc' := 9) (v := 8) rfl rfl (by decide) ?_
      refine g_icmp_ge (pc' := 12) (t := 49) rfl rfl rfl (fun c_9 => absurd c_9 (nI_ge (b := 8) hlt (by decide))) (fun c_9 => ?_)
      refine g_iload_n (pc' := 13) rfl rfl rfl ?_
      refine g_iload (pc' := 15) rfl rfl rfl ?_
      refine g_calli (pc' := 18) rfl rfl rfl rfl (Or.inl rfl) ?_
      refine d_has (by omega) (by omega) (fun hb1 => ?_) (fun hb0 => ?_)
      · refine g_if_eq (pc' := 21) (t := 43) rfl rfl rfl (fun c => absurd c (by decide)) (fun _ => ?_)
        have e1 := cnt_s S i
        rw [if_pos hb1] at e1
        have e2 := cnt_mono S (i + 1) (7 - i)
        rw [show i + 1 + (7 - i) = 8 by omega, c8] at e2
        have ok := sc_ok hW hlt hb
        refine g_aload_n (pc' := 22) rfl rfl rfl ?_
        refine g_getr (pc' := 25) rfl rfl (f_11_26) ?_
        refine g_iload_n (pc' := 26) rfl rfl rfl ?_
        refine g_bipush (pc' := 28) (v := 10) rfl rfl (by decide) ?_
        refine g_iload (pc' := 30) rfl rfl rfl ?_
        refine g_imul (pc' := 31) rfl rfl ?_
        refine g_vi (y := nI (10 * i)) (pk_mul 10 i) ?_
        refine g_aload_n (pc' := 32) rfl rfl rfl ?_
        refine g_getr (pc' := 35) rfl rfl (f_11_1) ?_
        refine g_iload (pc' := 37) rfl rfl rfl ?_
        refine g_iald (pc' := 38) rfl rfl (a_55) (k := i) (by omega) rfl ?_
        refine g_vi (y := nI (sc (stAt m 53) i).2) (by rw [r_C (by omega), hS.st]; exact ok.2) ?_
        refine g_iadd (pc' := 39) rfl rfl ?_
        refine g_vi (y := nI (10 * i + (sc (stAt m 53) i).2)) (nI_add _ _) ?_
        refine g_iast (pc' := 40) rfl rfl (a_67) (k := cnt S i) (by omega) rfl ?_
        refine g_iinc (pc' := 43) (v := nI (cnt S i + 1)) rfl rfl rfl (nI_1 _) rfl ?_
        refine g_iinc (pc' := 46) (v := nI (i + 1)) rfl rfl rfl (nI_1 i) rfl ?_
        refine g_goto (pc' := 5) rfl rfl ?_
        have hh := ih (i + 1) (am_wi m1.1 67 (cnt S i) (nI (10 * i + (sc (stAt m 53) i).2)), m1.2) v5 (by omega) hS.w (by
          rw [e1]
          intro j hj
          show am_wi m1.1 67 (cnt S i) (nI (10 * i + (sc (stAt m 53) i).2)) 67 j = _
          rw [am_wi_s]
          by_cases e : j = cnt S i
          · subst e; rw [upd_at, cnt_k S hS8 i hlt hb1]; rfl
          · rw [upd_ne e]; exact hF4 j (by omega))
        rw [e1] at hh
        exact hh
      · refine g_if_eq (pc' := 21) (t := 43) rfl rfl rfl (fun _ => ?_) (fun c => absurd c (by decide))
        refine g_iinc (pc' := 46) (v := nI (i + 1)) rfl rfl rfl (nI_1 i) rfl ?_
        refine g_goto (pc' := 5) rfl rfl ?_
        have e1 := cnt_s S i
        rw [if_neg (by rw [hb0]; decide)] at e1
        have hh := ih (i + 1) m1 v5 (by omega) hS (by rw [e1]; exact hF4)
        rw [e1] at hh
        exact hh
  refine g_iconst (pc' := 1) (v := 0) rfl rfl (by decide) ?_
  refine g_istore_n (pc' := 2) rfl rfl rfl ?_
  refine g_iconst (pc' := 3) (v := 0) rfl rfl (by decide) ?_
  refine g_istore (pc' := 5) rfl rfl rfl ?_
  exact loop 8 0 m _ rfl SQ.rf (fun j hj => absurd hj (Nat.not_lt_zero _))
theorem d_leftOf2 {S Mx : Nat} (hS8 : S < 256) (h4 : pcN S = 4) (hW : WFs Mx (stAt m 53)) (hb : ∀ k, k < 8 → ¬ sC (stAt m 53) k = 3) (h : ∀ m', SQ m m' → K (nI (10 * (hlf (stAt m 53) S 2).1 + (hlf (stAt m 53) S 2).2)) m') : gCi X 150 [.ref 53, .int (nI S), .int 2] m K := by
  refine g_inI rfl ?_
  have c8 := cnt_8 S hS8
  rw [h4] at c8
  have loop : ∀ (d i : Nat) (m1 : aMem) (v5 : Value), i + d = 8 → SQ m m1 → F4 m1 (stAt m 53) S (cnt S i) → gG X 150 5 [.ref 53, .int (nI S), .int 2, .int (nI (cnt S i)), .int (nI i), v5] [] m1 (fun r m' => ∃ v, r = some (.int v) ∧ K v m') := by
    intro d
    induction d with
    | zero =>
      intro i m1 v5 hd hS hF4
      have hi : i = 8 := by omega
      subst hi
      refine g_iload (pc' := 7) rfl rfl rfl ?_
      refine g_bipush (pc' := 9) (v := 8) rfl rfl (by decide) ?_
      refine g_icmp_ge (pc' := 12) (t := 49) rfl rfl rfl (fun c_9 => ?_) (fun c_9 => absurd (by decide) c_9)
      rw [c8] at hF4
      have q0 := mb_k S hS8 h4 0 (by decide)
      have q1 := mb_k S hS8 h4 1 (by decide)
      have q2 := mb_k S hS8 h4 2 (by decide)
      have q3 := mb_k S hS8 h4 3 (by decide)
      have n01 : (sc (stAt m 53) (mb S 0)).1 ≠ (sc (stAt m 53) (mb S 1)).1 := Nat.ne_of_lt (q1.2.2 0 (by decide))
      have n10 := n01.symm
      have n02 : (sc (stAt m 53) (mb S 0)).1 ≠ (sc (stAt m 53) (mb S 2)).1 := Nat.ne_of_lt (q2.2.2 0 (by decide))
      have n20 := n02.symm
      have n03 : (sc (stAt m 53) (mb S 0)).1 ≠ (sc (stAt m 53) (mb S 3)).1 := Nat.ne_of_lt (q3.2.2 0 (by decide))
      have n30 := n03.symm
      have n12 : (sc (stAt m 53) (mb S 1)).1 ≠ (sc (stAt m 53) (mb S 2)).1 := Nat.ne_of_lt (q2.2.2 1 (by decide))
      have n21 := n12.symm
      have n13 : (sc (stAt m 53) (mb S 1)).1 ≠ (sc (stAt m 53) (mb S 3)).1 := Nat.ne_of_lt (q3.2.2 1 (by decide))
      have n31 := n13.symm
      have n23 : (sc (stAt m 53) (mb S 2)).1 ≠ (sc (stAt m 53) (mb S 3)).1 := Nat.ne_of_lt (q3.2.2 2 (by decide))
      have n32 := n23.symm
      refine g_iload_n (pc' := 50) rfl rfl rfl ?_
      refine g_if_ne (pc' := 53) (t := 57) rfl rfl rfl (fun _ => ?_) (fun c => absurd c (by decide))
      refine g_iconst (pc' := 58) (v := 1) rfl rfl (by decide) ?_
      refine g_istore (pc' := 60) rfl rfl rfl ?_
      refine g_iload_n (pc' := 61) rfl rfl rfl ?_
      refine g_iconst (pc' := 62) (v := 2) rfl rfl (by decide) ?_
      refine g_icmp_ne (pc' := 65) (t := 69) rfl rfl rfl (fun c => absurd c (by decide)) (fun _ => ?_)
      refine g_iconst (pc' := 66) (v := 2) rfl rfl (by decide) ?_
      refine g_goto (pc' := 70) rfl rfl ?_
      refine g_istore (pc' := 72) rfl rfl rfl ?_
      refine g_aload_n (pc' := 73) rfl rfl rfl ?_
      refine g_aload_n (pc' := 74) rfl rfl rfl ?_
      refine g_aload_n (pc' := 75) rfl rfl rfl ?_
      refine g_getr (pc' := 78) rfl rfl (f_11_26) ?_
      refine g_iconst (pc' := 79) (v := 0) rfl rfl (by decide) ?_
      refine g_iald (pc' := 80) rfl rfl (a_67) (k := 0) (by decide) rfl ?_
      refine g_vi (y := nI (10 * (sc (stAt m 53) (mb S 0)).1 + (sc (stAt m 53) (mb S 0)).2)) (hF4 0 (by decide)) ?_
      refine g_aload_n (pc' := 81) rfl rfl rfl ?_
      refine g_getr (pc' := 84) rfl rfl (f_11_26) ?_
      refine g_iconst (pc' := 85) (v := 1) rfl rfl (by decide) ?_
      refine g_iload_n (pc' := 86) rfl rfl rfl ?_
      refine g_iadd (pc' := 87) rfl rfl ?_
      refine g_vi (y := 3) (by decide) ?_
      refine g_iald (pc' := 88) rfl rfl (a_67) (k := 3) (by decide) rfl ?_
      refine g_vi (y := nI (10 * (sc (stAt m 53) (mb S 3)).1 + (sc (stAt m 53) (mb S 3)).2)) (hF4 3 (by decide)) ?_
      refine g_calli (pc' := 91) rfl rfl rfl rfl (Or.inr rfl) ?_
      refine d_meet (sc_ok hW (q0).1 hb).1 (sc_ok hW (q3).1 hb).1 n03 (fun m2 s2 => ?_)
      rw [hS.st]
      have t2 := hS.sl s2
      refine g_aload_n (pc' := 92) rfl rfl rfl ?_
      refine g_aload_n (pc' := 93) rfl rfl rfl ?_
      refine g_getr (pc' := 96) rfl rfl (f_11_26) ?_
      refine g_iload (pc' := 98) rfl rfl rfl ?_
      refine g_iald (pc' := 99) rfl rfl (a_67) (k := 1) (by decide) rfl ?_
      refine g_vi (y := nI (10 * (sc (stAt m 53) (mb S 1)).1 + (sc (stAt m 53) (mb S 1)).2)) (by rw [s2.1 67 (by decide)]; exact hF4 1 (by decide)) ?_
      refine g_aload_n (pc' := 100) rfl rfl rfl ?_
      refine g_getr (pc' := 103) rfl rfl (f_11_26) ?_
      refine g_iload (pc' := 105) rfl rfl rfl ?_
      refine g_iald (pc' := 106) rfl rfl (a_67) (k := 2) (by decide) rfl ?_
      refine g_vi (y := nI (10 * (sc (stAt m 53) (mb S 2)).1 + (sc (stAt m 53) (mb S 2)).2)) (by rw [s2.1 67 (by decide)]; exact hF4 2 (by decide)) ?_
      refine g_calli (pc' := 109) rfl rfl rfl rfl (Or.inr rfl) ?_
      refine d_meet (sc_ok hW (q1).1 hb).1 (sc_ok hW (q2).1 hb).1 n12 (fun m3 s3 => ?_)
      rw [t2.st]
      have t3 := t2.sl s3
      refine g_calli (pc' := 112) rfl rfl rfl rfl (Or.inr rfl) ?_
      refine d_meet (me_ok (sc_ok hW (q0).1 hb).1 (sc_ok hW (q3).1 hb).1).1 (me_ok (sc_ok hW (q1).1 hb).1 (sc_ok hW (q2).1 hb).1).1 (by rcases (me_ok (s := stAt m 53) (sc_ok hW (q0).1 hb).1 (sc_ok hW (q3).1 hb).1).2 with z1 | z1 <;> rcases (me_ok (s := stAt m 53) (sc_ok hW (q1).1 hb).1 (sc_ok hW (q2).1 hb).1).2 with z2 | z2 <;> rw [z1, z2] <;> assumption) (fun m4 s4 => ?_)
      rw [t3.st]
      exact g_ireturn rfl rfl (h m4 (t3.sl s4))
    | succ d ih =>
      intro i m1 v5 hd hS hF4
      have hlt : i < 8 := by omega
      refine g_iload (pc' := 7) rfl rfl rfl ?_
      refine g_bipush (pc' := 9) (v := 8) rfl rfl (by decide) ?_
      refine g_icmp_ge (pc' := 12) (t := 49) rfl rfl rfl (fun c_9 => absurd c_9 (nI_ge (b := 8) hlt (by decide))) (fun c_9 => ?_)
      refine g_iload_n (pc' := 13) rfl rfl rfl ?_
      refine g_iload (pc' := 15) rfl rfl rfl ?_
      refine g_calli (pc' := 18) rfl rfl rfl rfl (Or.inl rfl) ?_
      refine d_has (by omega) (by omega) (fun hb1 => ?_) (fun hb0 => ?_)
      · refine g_if_eq (pc' := 21) (t := 43) rfl rfl rfl (fun c => absurd c (by decide)) (fun _ => ?_)
        have e1 := cnt_s S i
        rw [if_pos hb1] at e1
        have e2 := cnt_mono S (i + 1) (7 - i)
        rw [show i + 1 + (7 - i) = 8 by omega, c8] at e2
        have ok := sc_ok hW hlt hb
        refine g_aload_n (pc' := 22) rfl rfl rfl ?_
        refine g_getr (pc' := 25) rfl rfl (f_11_26) ?_
        refine g_iload_n (pc' := 26) rfl rfl rfl ?_
        refine g_bipush (pc' := 28) (v := 10) rfl rfl (by decide) ?_
        refine g_iload (pc' := 30) rfl rfl rfl ?_
        refine g_imul (pc' := 31) rfl rfl ?_
        refine g_vi (y := nI (10 * i)) (pk_mul 10 i) ?_
        refine g_aload_n (pc' := 32) rfl rfl rfl ?_
        refine g_getr (pc' := 35) rfl rfl (f_11_1) ?_
        refine g_iload (pc' := 37) rfl rfl rfl ?_
        refine g_iald (pc' := 38) rfl rfl (a_55) (k := i) (by omega) rfl ?_
        refine g_vi (y := nI (sc (stAt m 53) i).2) (by rw [r_C (by omega), hS.st]; exact ok.2) ?_
        refine g_iadd (pc' := 39) rfl rfl ?_
        refine g_vi (y := nI (10 * i + (sc (stAt m 53) i).2)) (nI_add _ _) ?_
        refine g_iast (pc' := 40) rfl rfl (a_67) (k := cnt S i) (by omega) rfl ?_
        refine g_iinc (pc' := 43) (v := nI (cnt S i + 1)) rfl rfl rfl (nI_1 _) rfl ?_
        refine g_iinc (pc' := 46) (v := nI (i + 1)) rfl rfl rfl (nI_1 i) rfl ?_
        refine g_goto (pc' := 5) rfl rfl ?_
        have hh := ih (i + 1) (am_wi m1.1 67 (cnt S i) (nI (10 * i + (sc (stAt m 53) i).2)), m1.2) v5 (by omega) hS.w (by
          rw [e1]
          intro j hj
          show am_wi m1.1 67 (cnt S i) (nI (10 * i + (sc (stAt m 53) i).2)) 67 j = _
          rw [am_wi_s]
          by_cases e : j = cnt S i
          · subst e; rw [upd_at, cnt_k S hS8 i hlt hb1]; rfl
          · rw [upd_ne e]; exact hF4 j (by omega))
        rw [e1] at hh
        exact hh
      · refine g_if_eq (pc' := 21) (t := 43) rfl rfl rfl (fun _ => ?_) (fun c => absurd c (by decide))
        refine g_iinc (pc' := 46) (v := nI (i + 1)) rfl rfl rfl (nI_1 i) rfl ?_
        refine g_goto (pc' := 5) rfl rfl ?_
        have e1 := cnt_s S i
        rw [if_neg (by rw [hb0]; decide)] at e1
        have hh := ih (i + 1) m1 v5 (by omega) hS (by rw [e1]; exact hF4)
        rw [e1] at hh
        exact hh
  refine g_iconst (pc' := 1) (v := 0) rfl rfl (by decide) ?_
  refine g_istore_n (pc' := 2) rfl rfl rfl ?_
  refine g_iconst (pc' := 3) (v := 0) rfl rfl (by decide) ?_
  refine g_istore (pc' := 5) rfl rfl rfl ?_
  exact loop 8 0 m _ rfl SQ.rf (fun j hj => absurd hj (Nat.not_lt_zero _))
end K2
