/-! CUPS: wins in a split, the model -/
theorem hl_ok {Mx : Nat} {s : aStr} {S w : Nat} (hW : WFs Mx s) (hb : ∀ k, k < 8 → ¬ sC s k = 3) (hS8 : S < 256) (h4 : pcN S = 4) (hw : w < 3) : okF (hlf s S w) ∧ (hlf s S w).1 < 8 ∧ S.testBit (hlf s S w).1 = true := by
  have q : ∀ j, j < 4 → mb S j < 8 ∧ S.testBit (mb S j) = true := fun j hj => ⟨(mb_k S hS8 h4 j hj).1, (mb_k S hS8 h4 j hj).2.1⟩
  have o : ∀ j, j < 4 → okF (sc s (mb S j)) := fun j hj => (sc_ok hW (q j hj).1 hb).1
  have j2 : (if w = 0 then 2 else 1) < 4 := by split <;> decide
  have j3 : (if w = 2 then 2 else 3) < 4 := by split <;> decide
  have m1 := me_ok (s := s) (o 0 (by decide)) (o (1 + w) (by omega))
  have m2 := me_ok (s := s) (o _ j2) (o _ j3)
  have m3 := me_ok (s := s) m1.1 m2.1
  refine ⟨m3.1, ?_⟩
  have hn : ∃ j, j < 4 ∧ (hlf s S w).1 = mb S j := by
    rcases m3.2 with z | z
    · rcases m1.2 with y | y
      · exact ⟨0, by decide, z.trans y⟩
      · exact ⟨1 + w, by omega, z.trans y⟩
    · rcases m2.2 with y | y
      · exact ⟨_, j2, z.trans y⟩
      · exact ⟨_, j3, z.trans y⟩
  obtain ⟨j, hj, e⟩ := hn
  rw [e]
  exact q j hj
def wcS (s : aStr) (S x k a : Nat) : Nat := if (meP s (hlf s S (k / 3)) (hlf s (255 - S) (k % 3))).1 = x then a + 1 else a
def wcN (s : aStr) (S x : Nat) : Nat := fN (wcS s S x) 9 0
section K3
variable {X : aX} {m : aMem} {A : aA} {K : Int32 → aMem → Prop}
theorem d_leftOf {S Mx w : Nat} (hw : w < 3) (hS8 : S < 256) (h4 : pcN S = 4) (hW : WFs Mx (stAt m 53)) (hb : ∀ k, k < 8 → ¬ sC (stAt m 53) k = 3) (h : ∀ m', SQ m m' → K (nI (10 * (hlf (stAt m 53) S w).1 + (hlf (stAt m 53) S w).2)) m') : gCi X 150 [.ref 53, .int (nI S), .int (nI w)] m K := by
  rcases (show w = 0 ∨ w = 1 ∨ w = 2 by omega) with z | z | z <;> subst z
  · exact d_leftOf0 hS8 h4 hW hb h
  · exact d_leftOf1 hS8 h4 hW hb h
  · exact d_leftOf2 hS8 h4 hW hb h
theorem d_winsOf {S Mx x : Nat} (hx : x < 8) (hS8 : S < 256) (h4 : pcN S = 4) (hW : WFs Mx (stAt m 53)) (hb : ∀ k, k < 8 → ¬ sC (stAt m 53) k = 3) (h : ∀ m', SQ m m' → K (nI (wcN (stAt m 53) S x)) m') : gCi X 151 [.ref 53, .int (nI x), .int (nI S)] m K := by
  refine g_inI rfl ?_
  have loop : ∀ (d i : Nat) (m1 : aMem) (v5 : Value), i + d = 9 → SQ m m1 → gG X 151 5 [.ref 53, .int (nI x), .int (nI S), .int (nI (fN (wcS (stAt m 53) S x) i 0)), .int (nI i), v5] [] m1 (fun r m' => ∃ v, r = some (.int v) ∧ K v m') := by
    intro d
    induction d with
    | zero =>
      intro i m1 v5 hd hS
      have hi : i = 9 := by omega
      subst hi
      refine g_iload (pc' := 7) rfl rfl rfl ?_
      refine g_bipush (pc' := 9) (v := 9) rfl rfl (by decide) ?_
      refine g_icmp_ge (pc' := 12) (t := 65) rfl rfl rfl (fun c_9 => ?_) (fun c_9 => absurd (by decide) c_9)
      refine g_iload_n (pc' := 66) rfl rfl rfl ?_
      exact g_ireturn rfl rfl (h m1 hS)
    | succ d ih =>
      intro i m1 v5 hd hS
      have hlt : i < 9 := by omega
      refine g_iload (pc' := 7) rfl rfl rfl ?_
      refine g_bipush (pc' := 9) (v := 9) rfl rfl (by decide) ?_
      refine g_icmp_ge (pc' := 12) (t := 65) rfl rfl rfl (fun c_9 => absurd c_9 (nI_ge (b := 9) hlt (by decide))) (fun c_9 => ?_)
      refine g_aload_n (pc' := 13) rfl rfl rfl ?_
      refine g_aload_n (pc' := 14) rfl rfl rfl ?_
      refine g_iload_n (pc' := 15) rfl rfl rfl ?_
      refine g_iload (pc' := 17) rfl rfl rfl ?_
      refine g_iconst (pc' := 18) (v := 3) rfl rfl (by decide) ?_
      refine g_idiv (pc' := 19) rfl rfl (by decide) ?_
      refine g_vi (y := nI (i / 3)) (i_div (by omega) (by decide) (by decide)) ?_
      refine g_calli (pc' := 22) rfl rfl rfl rfl (Or.inr rfl) ?_
      refine d_leftOf (Mx := Mx) (by omega) hS8 h4 (by rw [hS.st]; exact hW) (by rw [hS.st]; exact hb) (fun m2 s2 => ?_)
      rw [hS.st]
      have t2 := hS.tr s2
      obtain ⟨k4, kb⟩ := co_k S hS8 h4
      have o1 := hl_ok (w := i / 3) hW hb hS8 h4 (by omega)
      have o2 := hl_ok (S := 255 - S) (w := i % 3) hW hb (by omega) k4 (by omega)
      refine g_aload_n (pc' := 23) rfl rfl rfl ?_
      refine g_sipush (pc' := 26) (v := 255) rfl rfl (by decide) ?_
      refine g_iload_n (pc' := 27) rfl rfl rfl ?_
      refine g_iconst (pc' := 28) (v := -1) rfl rfl (by decide) ?_
      refine g_ixor (pc' := 29) rfl rfl ?_
      refine g_iand (pc' := 30) rfl rfl ?_
      refine g_vi (y := nI (255 - S)) (co_x S hS8) ?_
      refine g_iload (pc' := 32) rfl rfl rfl ?_
      refine g_iconst (pc' := 33) (v := 3) rfl rfl (by decide) ?_
      refine g_irem (pc' := 34) rfl rfl (by decide) ?_
      refine g_vi (y := nI (i % 3)) (i_rem (by omega) (by decide) (by decide)) ?_
      refine g_calli (pc' := 37) rfl rfl rfl rfl (Or.inr rfl) ?_
      refine d_leftOf (Mx := Mx) (by omega) (by omega) k4 (by rw [t2.st]; exact hW) (by rw [t2.st]; exact hb) (fun m3 s3 => ?_)
      rw [t2.st]
      have t3 := t2.tr s3
      refine g_calli (pc' := 40) rfl rfl rfl rfl (Or.inr rfl) ?_
      refine d_meet o1.1 o2.1 (fun z => by have y := o2.2.2; rw [← z, kb _ o1.2.1, o1.2.2] at y; exact absurd y (by decide)) (fun m4 s4 => ?_)
      rw [t3.st]
      have o3 := (me_ok (s := stAt m 53) o1.1 o2.1).1
      obtain ⟨o31, o32⟩ := o3
      refine g_istore (pc' := 42) rfl rfl rfl ?_
      refine g_iload_n (pc' := 43) rfl rfl rfl ?_
      refine g_iload (pc' := 45) rfl rfl rfl ?_
      refine g_bipush (pc' := 47) (v := 10) rfl rfl (by decide) ?_
      refine g_idiv (pc' := 48) rfl rfl (by decide) ?_
      refine g_vi (y := nI (meP (stAt m 53) (hlf (stAt m 53) S (i / 3)) (hlf (stAt m 53) (255 - S) (i % 3))).1) (by rw [show (10 : Int32) = nI 10 from rfl, i_div (by omega) (by decide) (by decide)]; congr 1; omega) ?_
      refine g_iload_n (pc' := 49) rfl rfl rfl ?_
      refine g_icmp_ne (pc' := 52) (t := 56) rfl rfl rfl (fun c_49 => ?_) (fun c_49 => ?_)
      · refine g_iconst (pc' := 57) (v := 0) rfl rfl (by decide) ?_
        refine g_iadd (pc' := 58) rfl rfl ?_
        refine g_vi (y := nI (fN (wcS (stAt m 53) S x) i 0)) (i_add0 _) ?_
        refine g_istore_n (pc' := 59) rfl rfl rfl ?_
        refine g_iinc (pc' := 62) (v := nI (i + 1)) rfl rfl rfl (nI_1 i) rfl ?_
        refine g_goto (pc' := 5) rfl rfl ?_
        have e : fN (wcS (stAt m 53) S x) (i + 1) 0 = fN (wcS (stAt m 53) S x) i 0 := by rw [fN, wcS, if_neg (fun z => c_49 (by rw [z]))]
        have hh := fun v => ih (i + 1) m4 v (by omega) (t3.sl s4)
        rw [e] at hh
        exact hh _
      · refine g_iconst (pc' := 53) (v := 1) rfl rfl (by decide) ?_
        refine g_goto (pc' := 57) rfl rfl ?_
        refine g_iadd (pc' := 58) rfl rfl ?_
        refine g_vi (y := nI (fN (wcS (stAt m 53) S x) i 0 + 1)) (nI_1 _) ?_
        refine g_istore_n (pc' := 59) rfl rfl rfl ?_
        refine g_iinc (pc' := 62) (v := nI (i + 1)) rfl rfl rfl (nI_1 i) rfl ?_
        refine g_goto (pc' := 5) rfl rfl ?_
        have e : fN (wcS (stAt m 53) S x) (i + 1) 0 = fN (wcS (stAt m 53) S x) i 0 + 1 := by rw [fN, wcS, if_pos ((nI_eq (by omega) (by omega)).mp c_49)]
        have hh := fun v => ih (i + 1) m4 v (by omega) (t3.sl s4)
        rw [e] at hh
        exact hh _
  refine g_iconst (pc' := 1) (v := 0) rfl rfl (by decide) ?_
  refine g_istore_n (pc' := 2) rfl rfl rfl ?_
  refine g_iconst (pc' := 3) (v := 0) rfl rfl (by decide) ?_
  refine g_istore (pc' := 5) rfl rfl rfl ?_
  exact loop 9 0 m _ rfl SQ.rf
end K3
