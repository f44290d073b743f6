/-! THE WHOLE OBJECT: what it holds, as a value; its answers, as functions of that -/
abbrev aSg : Type := Int32 × (Nat → Int32) × (Nat → Int32)
abbrev aIm : Type := Option (aStr × aSg)
/-- street; pad; sights; images -/
abbrev aA : Type := aStr × (Nat × (Nat → Int32)) × aSg × aIm × aIm
def aS (A : aA) : aStr := A.1
def aN (A : aA) : Nat := A.2.1.1
def aG (A : aA) : Nat → Int32 := A.2.1.2
def aT (A : aA) : aSg := A.2.2.1
def aI0 (A : aA) : aIm := A.2.2.2.1
def aI1 (A : aA) : aIm := A.2.2.2.2
def sgAt (m : aMem) (p : Nat) : aSg := (m.1 p 2, cut 8 (m.1 (p + 1)), cut 8 (m.1 (p + 2)))
/-- the worths that are known: W is the row's own table -/
def imC (m : aMem) (p : Nat) (i : aIm) : Prop := match i with
  | none => m.1 p 2 = 0
  | some q => m.1 p 2 = 1 ∧ stAt m (p + 1) = q.1 ∧ sgAt m (p + 7) = q.2
def CI (m : aMem) (A : aA) : Prop := stAt m 2 = aS A ∧ m.1 8 1 = nI (aN A) ∧ sg (aN A) (m.1 9) = aG A ∧ sgAt m 24 = aT A ∧ imC m 33 (aI0 A) ∧ imC m 43 (aI1 A) ∧ RG m
theorem Fr.sg {lo hi p : Nat} {m m' : aMem} (h : Fr lo hi m m') (hq : p + 2 < lo ∨ hi ≤ p) : sgAt m' p = sgAt m p := by
  unfold sgAt
  rw [h.1 p (by omega), h.1 (p + 1) (by omega), h.1 (p + 2) (by omega)]
theorem Fr.im {lo hi p : Nat} {m m' : aMem} {i : aIm} (h : Fr lo hi m m') (hq : p + 9 < lo ∨ hi ≤ p) (hi : imC m p i) : imC m' p i := by
  cases i with
  | none => exact (congrFun (h.1 p (by omega)) 2).trans hi
  | some q => exact ⟨(congrFun (h.1 p (by omega)) 2).trans hi.1, (h.st (by omega)).trans hi.2.1, (h.sg (by omega)).trans hi.2.2⟩
theorem CI.fr {lo hi : Nat} {m m' : aMem} {A : aA} (h : CI m A) (f : Fr lo hi m m') (hq : (10 ≤ lo ∧ hi ≤ 24) ∨ (27 ≤ lo ∧ hi ≤ 30) ∨ (32 ≤ lo ∧ hi ≤ 33) ∨ 53 ≤ lo) : CI m' A := by
  obtain ⟨h1, h2, h3, h4, h5, h6⟩ := h
  exact ⟨(f.st (by omega)).trans h1, by rw [f.i (by omega)]; exact h2, by rw [f.i (by omega)]; exact h3, (f.sg (by omega)).trans h4, f.im (by omega) h5, f.im (by omega) h6.1, f.rg (by omega) h6.2⟩
def ix (x : Int32) : Nat := x.toNatClampNeg
theorem ix_nI {k : Nat} (h : k < 1000) : ix (nI k) = k := nI_clamp (by omega)
def pA (A : aA) (n : Nat) (g : Nat → Int32) : aA := (A.1, (n, g), A.2.2)
def setA (A : aA) (s : aStr) : aA := (s, A.2)
/-- the days on the pad -/
def dayA (A : aA) : Option aTl := (parseA (aG A) (aN A) 60 0).map (tellL (T0 (aS A)))
def r_nut (A : aA) (x h c o : Int32) : Int32 × aA := if ¬ (0 ≤ x ∧ x ≤ 9) ∨ ¬ (0 ≤ o ∧ o ≤ 3) then (-1, A) else if ¬ (1 ≤ h ∧ h ≤ 99) ∨ ¬ (0 ≤ c ∧ c ≤ 2) then (-2, A) else (sS (aS A) (ix x), setA A (setS (aS A) (ix x) h c o))
def r_say (A : aA) (x : Int32) : Int32 × aA := if ¬ (33 ≤ x ∧ x ≤ 126) then (-2, A) else if aN A < 60 then (nI (aN A + 1), pA A (aN A + 1) (upd (aG A) (aN A) x)) else (-4, A)
def r_wipe (A : aA) : Int32 × aA := (nI (aN A), pA A 0 (fun _ => 0))
def r_fault (A : aA) : Int32 × aA := (findF (aG A) (aN A) 60 0, A)
def r_judge (A : aA) (w : Int32) : Int32 × aA := if ¬ (0 ≤ w ∧ w ≤ 2) then (-2, A) else match dayA A with
  | none => (-5, A)
  | some T => (if w = 2 ∧ ¬ badT T = -6 then -3 else if w = 0 then badT T else if w = 1 then T.2.2.2.1 else nI T.2.2.2.2.1, A)
def r_day (A : aA) (v : aTl → Int32) : Int32 := match dayA A with
  | none => -5
  | some T => if badT T = -6 then v T else -3
def r_behind (A : aA) (x w : Int32) : Int32 × aA := if ¬ (0 ≤ x ∧ x ≤ 9) then (-1, A) else if ¬ (0 ≤ w ∧ w ≤ 4) then (-2, A) else (r_day A (fun T => traitV T.1 (ix x) (ix w)), A)
def r_child (A : aA) (x w : Int32) : Int32 × aA := if ¬ (0 ≤ x ∧ x ≤ 3) then (-1, A) else if ¬ (0 ≤ w ∧ w ≤ 1) then (-2, A) else (r_day A (fun T => if w = 0 then scoresB T.1 x else nutsB T.1 x), A)
def r_street (A : aA) (w : Int32) : Int32 × aA := if ¬ (0 ≤ w ∧ w ≤ 2) then (-2, A) else (r_day A (fun T => if w = 0 then brokenB T.1 else if w = 1 then sD T.1 else (bestB T.1).2), A)
def r_first (A : aA) (w : Int32) : Int32 × aA := if ¬ (0 ≤ w ∧ w ≤ 1) then (-2, A) else (r_day A (fun T => if w = 0 then T.2.2.2.2.2.1 else T.2.2.2.2.2.2), A)
def r_done (A : aA) : Int32 × aA := match dayA A with
  | none => (-5, A)
  | some T => if badT T = -6 then (nI T.2.1, pA (setA A T.1) 0 (fun _ => 0)) else (-3, A)
def r_year (A : aA) (x n w : Int32) : Int32 × aA := if ¬ (0 ≤ x ∧ x ≤ 9999) ∨ ¬ (1 ≤ n ∧ n ≤ 99) ∨ ¬ (0 ≤ w ∧ w ≤ 2) then (-2, A) else (if w = 0 then brokenB (yearN (ix n) (aS A) (ix x)).1 else if w = 1 then mostV (yearN (ix n) (aS A) (ix x)).1 else scoresB (yearN (ix n) (aS A) (ix x)).1 0, A)
def r_told (A : aA) (w : Int32) : Int32 × aA := (if w = 0 then nI (aN A) else if w = 1 then brokenB (aS A) else if w = 2 then sD (aS A) else if w = 3 then (aT A).1 else if 10 ≤ w ∧ w ≤ 59 then traitV (aS A) (ix w % 10) (ix w / 10 - 1) else -2, A)
def r_harder (A : aA) (x y : Int32) : Int32 × aA := if ¬ (0 ≤ x ∧ x ≤ 4) ∨ ¬ (0 ≤ y ∧ y ≤ 4) ∨ x = y then (-2, A) else if (aT A).1 < 8 then ((aT A).1 + 1, (A.1, A.2.1, ((aT A).1 + 1, upd (aT A).2.1 (ix (aT A).1) x, upd (aT A).2.2 (ix (aT A).1) y), A.2.2.2)) else (-4, A)
def r_forget (A : aA) : Int32 × aA := ((aT A).1, (A.1, A.2.1, (0, (aT A).2), A.2.2.2))
def r_image (A : aA) (k : Int32) : Int32 × aA := if ¬ (0 ≤ k ∧ k ≤ 1) then (-2, A) else (1, if k = 0 then (A.1, A.2.1, A.2.2.1, some (aS A, aT A), A.2.2.2.2) else (A.1, A.2.1, A.2.2.1, A.2.2.2.1, some (aS A, aT A)))
def r_restore (A : aA) (k : Int32) : Int32 × aA := if ¬ (0 ≤ k ∧ k ≤ 1) then (-2, A) else match (if k = 0 then aI0 A else aI1 A) with
  | none => (-3, A)
  | some q => (1, (q.1, A.2.1, q.2, A.2.2.2))
section C8
variable {X : aX} {m : aMem} {A : aA} {K : Int32 → aMem → Prop}
theorem cf {r : Int32 × aA} {v : Int32} {A' : aA} (h : ∀ m', Fr 1 53 m m' → CI m' r.2 → K r.1 m') (e : r = (v, A')) {m' : aMem} (f : Fr 1 53 m m') (c : CI m' A') : K v m' := by
  subst e
  exact h m' f c
theorem dayA_C (hC : CI m A) : dayT m (aN A) = dayA A := by
  unfold dayT dayA
  rw [hC.2.2.1, hC.1]
theorem rn_9 {k : Nat} (h : k < 10) : 0 ≤ nI k ∧ nI k ≤ 9 := ⟨nI_pos' (by omega), nI_le (b := 9) (by omega) (by decide)⟩
theorem rn_3 {k : Nat} (h : k < 4) : 0 ≤ nI k ∧ nI k ≤ 3 := ⟨nI_pos' (by omega), nI_le (b := 3) (by omega) (by decide)⟩
theorem nn {p : Prop} (h : p) : ¬ ¬ p := fun q => q h
theorem c_nut {x hd c o : Int32} (hC : CI m A) (h : ∀ m', Fr 1 53 m m' → CI m' (r_nut A x hd c o).2 → K (r_nut A x hd c o).1 m') : gCi X 76 [.ref 1, .int x, .int hd, .int c, .int o] m K := by
  refine g_inI rfl ?_
  refine g_iload_n (pc' := 1) rfl rfl rfl ?_
  refine g_calli (pc' := 4) rfl rfl rfl rfl (Or.inl rfl) ?_
  refine c_isNut (fun k hk e => ?_) (fun z => ?_)
  · refine g_if_eq (pc' := 7) (t := 15) rfl rfl rfl (fun c => absurd c (by decide)) (fun _ => ?_)
    refine g_iload (pc' := 9) rfl rfl rfl ?_
    refine g_calli (pc' := 12) rfl rfl rfl rfl (Or.inl rfl) ?_
    refine c_isChild (fun ko hko eo => ?_) (fun zo => ?_)
    · refine g_if_ne (pc' := 15) (t := 17) rfl rfl rfl (fun _ => ?_) (fun c => absurd c (by decide))
      refine g_iload_n (pc' := 18) rfl rfl rfl ?_
      refine g_iconst (pc' := 19) (v := 1) rfl rfl (by decide) ?_
      refine g_bipush (pc' := 21) (v := 99) rfl rfl (by decide) ?_
      refine g_calli (pc' := 24) rfl rfl rfl rfl (Or.inl rfl) ?_
      refine c_isWithin (fun u1 u2 => ?_) (fun u0 => ?_)
      · refine g_if_eq (pc' := 27) (t := 36) rfl rfl rfl (fun c => absurd c (by decide)) (fun _ => ?_)
        refine g_iload_n (pc' := 28) rfl rfl rfl ?_
        refine g_iconst (pc' := 29) (v := 0) rfl rfl (by decide) ?_
        refine g_iconst (pc' := 30) (v := 2) rfl rfl (by decide) ?_
        refine g_calli (pc' := 33) rfl rfl rfl rfl (Or.inl rfl) ?_
        refine c_isWithin (fun w1 w2 => ?_) (fun w0 => ?_)
        · refine g_if_ne (pc' := 36) (t := 39) rfl rfl rfl (fun _ => ?_) (fun c => absurd c (by decide))
          have er : r_nut A x hd c o = (sS (aS A) k, setA A (setS (aS A) k hd c o)) := by unfold r_nut; rw [if_neg (by rw [e, eo]; exact fun y => y.elim (nn (rn_9 hk)) (nn (rn_3 hko))), if_neg (fun y => y.elim (nn ⟨u1, u2⟩) (nn ⟨w1, w2⟩)), e, ix_nI (by omega)]
          refine g_aload_n (pc' := 40) rfl rfl rfl ?_
          refine g_getr (pc' := 43) rfl rfl (f_10_0) ?_
          refine g_getr (pc' := 46) rfl rfl (f_8_2 isS_2) ?_
          refine g_iload_n (pc' := 47) rfl rfl rfl ?_
          refine g_iald (pc' := 48) rfl rfl (a_S3 isS_2) hk e ?_
          refine g_vi (y := sS (aS A) k) (by rw [← hC.1]; exact st_S hk) ?_
          refine g_istore (pc' := 50) rfl rfl rfl ?_
          refine g_aload_n (pc' := 51) rfl rfl rfl ?_
          refine g_getr (pc' := 54) rfl rfl (f_10_0) ?_
          refine g_iload_n (pc' := 55) rfl rfl rfl ?_
          refine g_iload_n (pc' := 56) rfl rfl rfl ?_
          refine g_iload_n (pc' := 57) rfl rfl rfl ?_
          refine g_iload (pc' := 59) rfl rfl rfl ?_
          subst e
          refine g_callv (pc' := 62) rfl rfl rfl rfl (Or.inr (rc_S isS_2)) ?_
          refine c_setOne isS_2 hk (fun m1 f1 e1 => ?_)
          refine g_iload (pc' := 64) rfl rfl rfl ?_
          exact g_ireturn rfl rfl (cf h er (f1.wide (by decide) (by decide)) ⟨e1.trans (by rw [hC.1]; rfl), by rw [f1.i (by omega)]; exact hC.2.1, by rw [f1.i (by omega)]; exact hC.2.2.1, (f1.sg (by omega)).trans hC.2.2.2.1, f1.im (by omega) hC.2.2.2.2.1, f1.im (by omega) hC.2.2.2.2.2.1, f1.rg (by omega) hC.2.2.2.2.2.2⟩)
        · refine g_if_ne (pc' := 36) (t := 39) rfl rfl rfl (fun c => absurd c (by decide)) (fun _ => ?_)
          refine g_bipush (pc' := 38) (v := -2) rfl rfl (by decide) ?_
          exact g_ireturn rfl rfl (cf h (by unfold r_nut; rw [if_neg (by rw [e, eo]; exact fun y => y.elim (nn (rn_9 hk)) (nn (rn_3 hko))), if_pos (Or.inr w0)]) Fr.rf hC)
      · refine g_if_eq (pc' := 27) (t := 36) rfl rfl rfl (fun _ => ?_) (fun c => absurd c (by decide))
        refine g_bipush (pc' := 38) (v := -2) rfl rfl (by decide) ?_
        exact g_ireturn rfl rfl (cf h (by unfold r_nut; rw [if_neg (by rw [e, eo]; exact fun y => y.elim (nn (rn_9 hk)) (nn (rn_3 hko))), if_pos (Or.inl u0)]) Fr.rf hC)
    · refine g_if_ne (pc' := 15) (t := 17) rfl rfl rfl (fun c => absurd c (by decide)) (fun _ => ?_)
      refine g_iconst (pc' := 16) (v := -1) rfl rfl (by decide) ?_
      exact g_ireturn rfl rfl (cf h (by unfold r_nut; rw [if_pos (Or.inr zo)]) Fr.rf hC)
  · refine g_if_eq (pc' := 7) (t := 15) rfl rfl rfl (fun _ => ?_) (fun c => absurd c (by decide))
    refine g_iconst (pc' := 16) (v := -1) rfl rfl (by decide) ?_
    exact g_ireturn rfl rfl (cf h (by unfold r_nut; rw [if_pos (Or.inl z)]) Fr.rf hC)
theorem c_wipe (hC : CI m A) (h : ∀ m', Fr 1 53 m m' → CI m' (r_wipe A).2 → K (r_wipe A).1 m') : gCi X 78 [.ref 1] m K := by
  refine g_inI rfl ?_
  refine g_aload_n (pc' := 1) rfl rfl rfl ?_
  refine g_getr (pc' := 4) rfl rfl (f_10_1) ?_
  refine g_geti (pc' := 7) rfl rfl (i_4_1) ?_
  refine g_vi (y := nI (aN A)) (hC.2.1) ?_
  refine g_istore_n (pc' := 8) rfl rfl rfl ?_
  refine g_aload_n (pc' := 9) rfl rfl rfl ?_
  refine g_getr (pc' := 12) rfl rfl (f_10_1) ?_
  refine g_iconst (pc' := 13) (v := 0) rfl rfl (by decide) ?_
  refine g_puti (pc' := 16) rfl rfl (i_4_1) ?_
  refine g_iload_n (pc' := 17) rfl rfl rfl ?_
  exact g_ireturn rfl rfl (cf h rfl (Fr.rf.s (by omega) (by omega)) ⟨(st_wx (by omega)).trans hC.1, rfl, by funext q; rfl, (Fr.sg (Fr.wi (Nat.le_refl 8) (by decide : 8 < 9)) (by omega)).trans hC.2.2.2.1, Fr.im (Fr.wi (Nat.le_refl 8) (by decide : 8 < 9)) (by omega) hC.2.2.2.2.1, Fr.im (Fr.wi (Nat.le_refl 8) (by decide : 8 < 9)) (by omega) hC.2.2.2.2.2.1, Fr.rg (Fr.wi (Nat.le_refl 8) (by decide : 8 < 9)) (by omega) hC.2.2.2.2.2.2⟩)
theorem c_fault (hC : CI m A) (h60 : aN A ≤ 60) (h : ∀ m', Fr 1 53 m m' → CI m' (r_fault A).2 → K (r_fault A).1 m') : gCi X 79 [.ref 1] m K := by
  refine g_inI rfl ?_
  refine g_aload_n (pc' := 1) rfl rfl rfl ?_
  refine g_getr (pc' := 4) rfl rfl (f_10_1) ?_
  refine g_calli (pc' := 7) rfl rfl rfl rfl (Or.inr rfl) ?_
  refine c_findFault hC.2.1 h60 ?_
  exact g_ireturn rfl rfl (cf h (by unfold r_fault; rw [← hC.2.2.1]) Fr.rf hC)
theorem sg_upd {n : Nat} {f : Nat → Int32} {x : Int32} : sg (n + 1) (upd f n x) = upd (sg n f) n x := by
  funext q
  unfold sg upd
  by_cases h : q = n
  · subst h; simp
  · by_cases h2 : q < n
    · simp [h, h2, show q < n + 1 by omega]
    · simp [h, h2, show ¬ q < n + 1 by omega]
theorem c_padAdd {n : Nat} {x : Int32} (hn : m.1 8 1 = nI n) (h60 : n ≤ 60) (h1 : n < 60 → ∀ m', Fr 8 10 m m' → m'.1 8 1 = nI (n + 1) → m'.1 9 = upd (m.1 9) n x → K 1 m') (h0 : ¬ n < 60 → K 0 m) : gCi X 26 [.ref 8, .int x] m K := by
  refine g_inI rfl ?_
  refine g_aload_n (pc' := 1) rfl rfl rfl ?_
  refine g_geti (pc' := 4) rfl rfl (i_4_1) ?_
  refine g_vi (y := nI n) (hn) ?_
  refine g_bipush (pc' := 6) (v := 60) rfl rfl (by decide) ?_
  refine g_icmp_lt (pc' := 9) (t := 11) rfl rfl rfl (fun c_6 => ?_) (fun c_6 => ?_)
  · have hlt : n < 60 := Nat.not_le.mp (fun z => nI_nlt (b := 60) z (by omega) c_6)
    refine g_aload_n (pc' := 12) rfl rfl rfl ?_
    refine g_getr (pc' := 15) rfl rfl (f_4_0) ?_
    refine g_aload_n (pc' := 16) rfl rfl rfl ?_
    refine g_geti (pc' := 19) rfl rfl (i_4_1) ?_
    refine g_vi (y := nI n) (hn) ?_
    refine g_iload_n (pc' := 20) rfl rfl rfl ?_
    refine g_iast (pc' := 21) rfl rfl (a_9) hlt rfl ?_
    refine g_aload_n (pc' := 22) rfl rfl rfl ?_
    refine g_dup (pc' := 23) rfl rfl rfl ?_
    refine g_geti (pc' := 26) rfl rfl (i_4_1) ?_
    refine g_vi (y := nI n) (hn) ?_
    refine g_iconst (pc' := 27) (v := 1) rfl rfl (by decide) ?_
    refine g_iadd (pc' := 28) rfl rfl ?_
    refine g_vi (y := nI (n + 1)) (nI_1 n) ?_
    refine g_puti (pc' := 31) rfl rfl (i_4_1) ?_
    refine g_iconst (pc' := 32) (v := 1) rfl rfl (by decide) ?_
    exact g_zreturn rfl rfl (by decide) (h1 hlt _ ((Fr.rf.s (by omega) (by omega)).s (by omega) (by omega)) (by simp [am_wi, upd]) (by simp [am_wi]))
  · refine g_iconst (pc' := 10) (v := 0) rfl rfl (by decide) ?_
    exact g_zreturn rfl rfl (by decide) (h0 (fun z => c_6 (nI_lt (b := 60) z (by decide))))
theorem c_say {x : Int32} (hC : CI m A) (h60 : aN A ≤ 60) (h : ∀ m', Fr 1 53 m m' → CI m' (r_say A x).2 → K (r_say A x).1 m') : gCi X 77 [.ref 1, .int x] m K := by
  refine g_inI rfl ?_
  refine g_iload_n (pc' := 1) rfl rfl rfl ?_
  refine g_bipush (pc' := 3) (v := 33) rfl rfl (by decide) ?_
  refine g_bipush (pc' := 5) (v := 126) rfl rfl (by decide) ?_
  refine g_calli (pc' := 8) rfl rfl rfl rfl (Or.inl rfl) ?_
  refine c_isWithin (fun u1 u2 => ?_) (fun u0 => ?_)
  · refine g_if_ne (pc' := 11) (t := 14) rfl rfl rfl (fun _ => ?_) (fun c => absurd c (by decide))
    refine g_aload_n (pc' := 15) rfl rfl rfl ?_
    refine g_getr (pc' := 18) rfl rfl (f_10_1) ?_
    refine g_iload_n (pc' := 19) rfl rfl rfl ?_
    refine g_calli (pc' := 22) rfl rfl rfl rfl (Or.inr rfl) ?_
    refine c_padAdd hC.2.1 h60 (fun hlt m1 f1 e1 e2 => ?_) (fun z => ?_)
    · refine g_if_eq (pc' := 25) (t := 35) rfl rfl rfl (fun c => absurd c (by decide)) (fun _ => ?_)
      refine g_aload_n (pc' := 26) rfl rfl rfl ?_
      refine g_getr (pc' := 29) rfl rfl (f_10_1) ?_
      refine g_geti (pc' := 32) rfl rfl (i_4_1) ?_
      refine g_vi (y := nI (aN A + 1)) (e1) ?_
      refine g_goto (pc' := 37) rfl rfl ?_
      exact g_ireturn rfl rfl (cf (A' := pA A (aN A + 1) (upd (aG A) (aN A) x)) h (by unfold r_say; rw [if_neg (nn ⟨u1, u2⟩), if_pos hlt]) (f1.wide (by decide) (by decide)) ⟨(f1.st (by omega)).trans hC.1, e1, by rw [e2]; show sg (aN A + 1) _ = upd (aG A) (aN A) x; rw [sg_upd, hC.2.2.1], (f1.sg (by omega)).trans hC.2.2.2.1, f1.im (by omega) hC.2.2.2.2.1, f1.im (by omega) hC.2.2.2.2.2.1, f1.rg (by omega) hC.2.2.2.2.2.2⟩)
    · refine g_if_eq (pc' := 25) (t := 35) rfl rfl rfl (fun _ => ?_) (fun c => absurd c (by decide))
      refine g_bipush (pc' := 37) (v := -4) rfl rfl (by decide) ?_
      exact g_ireturn rfl rfl (cf h (by unfold r_say; rw [if_neg (nn ⟨u1, u2⟩), if_neg z]) Fr.rf hC)
  · refine g_if_ne (pc' := 11) (t := 14) rfl rfl rfl (fun c => absurd c (by decide)) (fun _ => ?_)
    refine g_bipush (pc' := 13) (v := -2) rfl rfl (by decide) ?_
    exact g_ireturn rfl rfl (cf h (by unfold r_say; rw [if_pos u0]) Fr.rf hC)
theorem c_tell3 (hC : CI m A) (h60 : aN A ≤ 60) (h0 : dayA A = none → K (-5) m) (h1 : ∀ Tt m', dayA A = some Tt → badT Tt = -6 → Fr 10 17 m m' → TR m' Tt → CI m' A → K 0 m') (h2 : ∀ Tt m', dayA A = some Tt → ¬ badT Tt = -6 → Fr 10 17 m m' → TR m' Tt → CI m' A → K (-3) m') : gCi X 86 [.ref 1] m K := by
  refine c_tellDays hC.2.1 h60 (fun hd => h0 ((dayA_C hC).symm.trans hd)) (fun Tt m1 hd f1 t1 => ?_)
  have c1 := hC.fr f1 (by omega)
  by_cases hb : badT Tt = -6
  · rw [if_pos hb]
    exact h1 Tt m1 ((dayA_C hC).symm.trans hd) hb f1 t1 c1
  · rw [if_neg hb]
    exact h2 Tt m1 ((dayA_C hC).symm.trans hd) hb f1 t1 c1
theorem c_judge {w : Int32} (hC : CI m A) (h60 : aN A ≤ 60) (h : ∀ m', Fr 1 53 m m' → CI m' (r_judge A w).2 → K (r_judge A w).1 m') : gCi X 80 [.ref 1, .int w] m K := by
  refine g_inI rfl ?_
  refine g_iload_n (pc' := 1) rfl rfl rfl ?_
  refine g_iconst (pc' := 2) (v := 0) rfl rfl (by decide) ?_
  refine g_iconst (pc' := 3) (v := 2) rfl rfl (by decide) ?_
  refine g_calli (pc' := 6) rfl rfl rfl rfl (Or.inl rfl) ?_
  refine c_isWithin (fun u1 u2 => ?_) (fun u0 => ?_)
  · refine g_if_ne (pc' := 9) (t := 12) rfl rfl rfl (fun _ => ?_) (fun c => absurd c (by decide))
    refine g_aload_n (pc' := 13) rfl rfl rfl ?_
    refine g_calli (pc' := 16) rfl rfl rfl rfl (Or.inr rfl) ?_
    refine c_tell3 hC h60 (fun hd => ?_) (fun Tt m1 hd hb f1 t1 c1 => ?_) (fun Tt m1 hd hb f1 t1 c1 => ?_)
    · refine g_istore_n (pc' := 17) rfl rfl rfl ?_
      refine g_iload_n (pc' := 18) rfl rfl rfl ?_
      refine g_bipush (pc' := 20) (v := -5) rfl rfl (by decide) ?_
      refine g_icmp_eq (pc' := 23) (t := 34) rfl rfl rfl (fun _ => ?_) (fun c => absurd c (by decide))
      refine g_iload_n (pc' := 35) rfl rfl rfl ?_
      exact g_ireturn rfl rfl (cf h (by unfold r_judge; rw [if_neg (nn ⟨u1, u2⟩), hd]) Fr.rf hC)
    · refine g_istore_n (pc' := 17) rfl rfl rfl ?_
      refine g_iload_n (pc' := 18) rfl rfl rfl ?_
      refine g_bipush (pc' := 20) (v := -5) rfl rfl (by decide) ?_
      refine g_icmp_eq (pc' := 23) (t := 34) rfl rfl rfl (fun c => absurd c (by decide)) (fun _ => ?_)
      refine g_iload_n (pc' := 24) rfl rfl rfl ?_
      refine g_iconst (pc' := 25) (v := 2) rfl rfl (by decide) ?_
      refine g_icmp_ne (pc' := 28) (t := 36) rfl rfl rfl (fun c_25 => ?_) (fun c_25 => ?_)
      · refine g_iload_n (pc' := 37) rfl rfl rfl ?_
        refine g_if_ne (pc' := 40) (t := 50) rfl rfl rfl (fun c_37 => ?_) (fun c_37 => ?_)
        · refine g_iload_n (pc' := 51) rfl rfl rfl ?_
          refine g_iconst (pc' := 52) (v := 1) rfl rfl (by decide) ?_
          refine g_icmp_ne (pc' := 55) (t := 65) rfl rfl rfl (fun c_52 => ?_) (fun c_52 => ?_)
          · refine g_aload_n (pc' := 66) rfl rfl rfl ?_
            refine g_getr (pc' := 69) rfl rfl (f_10_2) ?_
            refine g_geti (pc' := 72) rfl rfl (i_9_4) ?_
            refine g_vi (y := nI Tt.2.2.2.2.1) (t1.2.2.2.2.1) ?_
            exact g_ireturn rfl rfl (cf h (by unfold r_judge; rw [if_neg (nn ⟨u1, u2⟩), hd]; simp [hb, c_25, c_37, c_52]) (f1.wide (by decide) (by decide)) c1)
          · refine g_aload_n (pc' := 56) rfl rfl rfl ?_
            refine g_getr (pc' := 59) rfl rfl (f_10_2) ?_
            refine g_geti (pc' := 62) rfl rfl (i_9_3) ?_
            refine g_vi (y := Tt.2.2.2.1) (t1.2.2.2.1) ?_
            refine g_goto (pc' := 72) rfl rfl ?_
            exact g_ireturn rfl rfl (cf h (by unfold r_judge; rw [if_neg (nn ⟨u1, u2⟩), hd]; simp [hb, c_37, c_52]) (f1.wide (by decide) (by decide)) c1)
        · refine g_aload_n (pc' := 41) rfl rfl rfl ?_
          refine g_getr (pc' := 44) rfl rfl (f_10_2) ?_
          refine g_geti (pc' := 47) rfl rfl (i_9_2) ?_
          refine g_vi (y := badT Tt) (t1.2.2.1) ?_
          refine g_goto (pc' := 72) rfl rfl ?_
          exact g_ireturn rfl rfl (cf h (by unfold r_judge; rw [if_neg (nn ⟨u1, u2⟩), hd]; simp [hb, c_37]) (f1.wide (by decide) (by decide)) c1)
      · refine g_iload_n (pc' := 29) rfl rfl rfl ?_
        refine g_bipush (pc' := 31) (v := -3) rfl rfl (by decide) ?_
        refine g_icmp_ne (pc' := 34) (t := 36) rfl rfl rfl (fun _ => ?_) (fun c => absurd c (by decide))
        refine g_iload_n (pc' := 37) rfl rfl rfl ?_
        refine g_if_ne (pc' := 40) (t := 50) rfl rfl rfl (fun c_37 => ?_) (fun c_37 => ?_)
        · refine g_iload_n (pc' := 51) rfl rfl rfl ?_
          refine g_iconst (pc' := 52) (v := 1) rfl rfl (by decide) ?_
          refine g_icmp_ne (pc' := 55) (t := 65) rfl rfl rfl (fun c_52 => ?_) (fun c_52 => ?_)
          · refine g_aload_n (pc' := 66) rfl rfl rfl ?_
            refine g_getr (pc' := 69) rfl rfl (f_10_2) ?_
            refine g_geti (pc' := 72) rfl rfl (i_9_4) ?_
            refine g_vi (y := nI Tt.2.2.2.2.1) (t1.2.2.2.2.1) ?_
            exact g_ireturn rfl rfl (cf h (by unfold r_judge; rw [if_neg (nn ⟨u1, u2⟩), hd]; simp [hb, c_25, c_37, c_52]) (f1.wide (by decide) (by decide)) c1)
          · refine g_aload_n (pc' := 56) rfl rfl rfl ?_
            refine g_getr (pc' := 59) rfl rfl (f_10_2) ?_
            refine g_geti (pc' := 62) rfl rfl (i_9_3) ?_
            refine g_vi (y := Tt.2.2.2.1) (t1.2.2.2.1) ?_
            refine g_goto (pc' := 72) rfl rfl ?_
            exact g_ireturn rfl rfl (cf h (by unfold r_judge; rw [if_neg (nn ⟨u1, u2⟩), hd]; simp [hb, c_37, c_52]) (f1.wide (by decide) (by decide)) c1)
        · refine g_aload_n (pc' := 41) rfl rfl rfl ?_
          refine g_getr (pc' := 44) rfl rfl (f_10_2) ?_
          refine g_geti (pc' := 47) rfl rfl (i_9_2) ?_
          refine g_vi (y := badT Tt) (t1.2.2.1) ?_
          refine g_goto (pc' := 72) rfl rfl ?_
          exact g_ireturn rfl rfl (cf h (by unfold r_judge; rw [if_neg (nn ⟨u1, u2⟩), hd]; simp [hb, c_37]) (f1.wide (by decide) (by decide)) c1)
    · refine g_istore_n (pc' := 17) rfl rfl rfl ?_
      refine g_iload_n (pc' := 18) rfl rfl rfl ?_
      refine g_bipush (pc' := 20) (v := -5) rfl rfl (by decide) ?_
      refine g_icmp_eq (pc' := 23) (t := 34) rfl rfl rfl (fun c => absurd c (by decide)) (fun _ => ?_)
      refine g_iload_n (pc' := 24) rfl rfl rfl ?_
      refine g_iconst (pc' := 25) (v := 2) rfl rfl (by decide) ?_
      refine g_icmp_ne (pc' := 28) (t := 36) rfl rfl rfl (fun c_25 => ?_) (fun c_25 => ?_)
      · refine g_iload_n (pc' := 37) rfl rfl rfl ?_
        refine g_if_ne (pc' := 40) (t := 50) rfl rfl rfl (fun c_37 => ?_) (fun c_37 => ?_)
        · refine g_iload_n (pc' := 51) rfl rfl rfl ?_
          refine g_iconst (pc' := 52) (v := 1) rfl rfl (by decide) ?_
          refine g_icmp_ne (pc' := 55) (t := 65) rfl rfl rfl (fun c_52 => ?_) (fun c_52 => ?_)
          · refine g_aload_n (pc' := 66) rfl rfl rfl ?_
            refine g_getr (pc' := 69) rfl rfl (f_10_2) ?_
            refine g_geti (pc' := 72) rfl rfl (i_9_4) ?_
            refine g_vi (y := nI Tt.2.2.2.2.1) (t1.2.2.2.2.1) ?_
            exact g_ireturn rfl rfl (cf h (by unfold r_judge; rw [if_neg (nn ⟨u1, u2⟩), hd]; simp [hb, c_25, c_37, c_52]) (f1.wide (by decide) (by decide)) c1)
          · refine g_aload_n (pc' := 56) rfl rfl rfl ?_
            refine g_getr (pc' := 59) rfl rfl (f_10_2) ?_
            refine g_geti (pc' := 62) rfl rfl (i_9_3) ?_
            refine g_vi (y := Tt.2.2.2.1) (t1.2.2.2.1) ?_
            refine g_goto (pc' := 72) rfl rfl ?_
            exact g_ireturn rfl rfl (cf h (by unfold r_judge; rw [if_neg (nn ⟨u1, u2⟩), hd]; simp [hb, c_37, c_52]) (f1.wide (by decide) (by decide)) c1)
        · refine g_aload_n (pc' := 41) rfl rfl rfl ?_
          refine g_getr (pc' := 44) rfl rfl (f_10_2) ?_
          refine g_geti (pc' := 47) rfl rfl (i_9_2) ?_
          refine g_vi (y := badT Tt) (t1.2.2.1) ?_
          refine g_goto (pc' := 72) rfl rfl ?_
          exact g_ireturn rfl rfl (cf h (by unfold r_judge; rw [if_neg (nn ⟨u1, u2⟩), hd]; simp [hb, c_37]) (f1.wide (by decide) (by decide)) c1)
      · refine g_iload_n (pc' := 29) rfl rfl rfl ?_
        refine g_bipush (pc' := 31) (v := -3) rfl rfl (by decide) ?_
        refine g_icmp_ne (pc' := 34) (t := 36) rfl rfl rfl (fun c => absurd c (by decide)) (fun _ => ?_)
        refine g_iload_n (pc' := 35) rfl rfl rfl ?_
        exact g_ireturn rfl rfl (cf h (by unfold r_judge; rw [if_neg (nn ⟨u1, u2⟩), hd]; simp [hb, c_25]) (f1.wide (by decide) (by decide)) c1)
  · refine g_if_ne (pc' := 9) (t := 12) rfl rfl rfl (fun c => absurd c (by decide)) (fun _ => ?_)
    refine g_bipush (pc' := 11) (v := -2) rfl rfl (by decide) ?_
    exact g_ireturn rfl rfl (cf h (by unfold r_judge; rw [if_pos u0]) Fr.rf hC)
theorem c_behind {x w : Int32} (hC : CI m A) (h60 : aN A ≤ 60) (h : ∀ m', Fr 1 53 m m' → CI m' (r_behind A x w).2 → K (r_behind A x w).1 m') : gCi X 81 [.ref 1, .int x, .int w] m K := by
  refine g_inI rfl ?_
  refine g_iload_n (pc' := 1) rfl rfl rfl ?_
  refine g_calli (pc' := 4) rfl rfl rfl rfl (Or.inl rfl) ?_
  refine c_isNut (fun k hk e => ?_) (fun z => ?_)
  · refine g_if_ne (pc' := 7) (t := 9) rfl rfl rfl (fun _ => ?_) (fun c => absurd c (by decide))
    refine g_iload_n (pc' := 10) rfl rfl rfl ?_
    refine g_iconst (pc' := 11) (v := 0) rfl rfl (by decide) ?_
    refine g_iconst (pc' := 12) (v := 4) rfl rfl (by decide) ?_
    refine g_calli (pc' := 15) rfl rfl rfl rfl (Or.inl rfl) ?_
    refine c_isWithin (fun u1 u2 => ?_) (fun u0 => ?_)
    · refine g_if_ne (pc' := 18) (t := 21) rfl rfl rfl (fun _ => ?_) (fun c => absurd c (by decide))
      refine g_aload_n (pc' := 22) rfl rfl rfl ?_
      refine g_calli (pc' := 25) rfl rfl rfl rfl (Or.inr rfl) ?_
      refine c_tell3 hC h60 (fun hd => ?_) (fun Tt m1 hd hb f1 t1 c1 => ?_) (fun Tt m1 hd hb f1 t1 c1 => ?_)
      · refine g_istore_n (pc' := 26) rfl rfl rfl ?_
        refine g_iload_n (pc' := 27) rfl rfl rfl ?_
        refine g_if_eq (pc' := 30) (t := 34) rfl rfl rfl (fun c => absurd c (by decide)) (fun _ => ?_)
        refine g_iload_n (pc' := 31) rfl rfl rfl ?_
        refine g_goto (pc' := 43) rfl rfl ?_
        exact g_ireturn rfl rfl (cf h (by unfold r_behind; rw [if_neg (by rw [e]; exact nn (rn_9 hk)), if_neg (nn ⟨u1, u2⟩)]; unfold r_day; rw [hd]) Fr.rf hC)
      · refine g_istore_n (pc' := 26) rfl rfl rfl ?_
        refine g_iload_n (pc' := 27) rfl rfl rfl ?_
        refine g_if_eq (pc' := 30) (t := 34) rfl rfl rfl (fun _ => ?_) (fun c => absurd c (by decide))
        obtain ⟨j, hj, ej⟩ := i_in (n := 4) (by decide) u1 u2
        have er : r_behind A x w = (traitV Tt.1 k j, A) := by unfold r_behind; rw [if_neg (by rw [e]; exact nn (rn_9 hk)), if_neg (nn ⟨u1, u2⟩)]; unfold r_day; rw [hd]; simp only [hb, if_true]; rw [e, ej, ix_nI (by omega), ix_nI (by omega)]
        subst e
        subst ej
        refine g_aload_n (pc' := 35) rfl rfl rfl ?_
        refine g_getr (pc' := 38) rfl rfl (f_10_3) ?_
        refine g_iload_n (pc' := 39) rfl rfl rfl ?_
        refine g_iload_n (pc' := 40) rfl rfl rfl ?_
        refine g_calli (pc' := 43) rfl rfl rfl rfl (Or.inr (rc_S isS_11)) ?_
        refine c_traitOf isS_11 hk hj ?_
        exact g_ireturn rfl rfl (cf h er (f1.wide (by decide) (by decide)) c1 |> fun z => g_eq z (by rw [t1.1]) rfl)
      · refine g_istore_n (pc' := 26) rfl rfl rfl ?_
        refine g_iload_n (pc' := 27) rfl rfl rfl ?_
        refine g_if_eq (pc' := 30) (t := 34) rfl rfl rfl (fun c => absurd c (by decide)) (fun _ => ?_)
        refine g_iload_n (pc' := 31) rfl rfl rfl ?_
        refine g_goto (pc' := 43) rfl rfl ?_
        exact g_ireturn rfl rfl (cf h (by unfold r_behind; rw [if_neg (by rw [e]; exact nn (rn_9 hk)), if_neg (nn ⟨u1, u2⟩)]; unfold r_day; rw [hd]; simp [hb]) (f1.wide (by decide) (by decide)) c1)
    · refine g_if_ne (pc' := 18) (t := 21) rfl rfl rfl (fun c => absurd c (by decide)) (fun _ => ?_)
      refine g_bipush (pc' := 20) (v := -2) rfl rfl (by decide) ?_
      exact g_ireturn rfl rfl (cf h (by unfold r_behind; rw [if_neg (by rw [e]; exact nn (rn_9 hk)), if_pos u0]) Fr.rf hC)
  · refine g_if_ne (pc' := 7) (t := 9) rfl rfl rfl (fun c => absurd c (by decide)) (fun _ => ?_)
    refine g_iconst (pc' := 8) (v := -1) rfl rfl (by decide) ?_
    exact g_ireturn rfl rfl (cf h (by unfold r_behind; rw [if_pos z]) Fr.rf hC)
theorem c_child {x w : Int32} (hC : CI m A) (h60 : aN A ≤ 60) (h : ∀ m', Fr 1 53 m m' → CI m' (r_child A x w).2 → K (r_child A x w).1 m') : gCi X 82 [.ref 1, .int x, .int w] m K := by
  refine g_inI rfl ?_
  refine g_iload_n (pc' := 1) rfl rfl rfl ?_
  refine g_calli (pc' := 4) rfl rfl rfl rfl (Or.inl rfl) ?_
  refine c_isChild (fun k hk e => ?_) (fun z => ?_)
  · refine g_if_ne (pc' := 7) (t := 9) rfl rfl rfl (fun _ => ?_) (fun c => absurd c (by decide))
    refine g_iload_n (pc' := 10) rfl rfl rfl ?_
    refine g_iconst (pc' := 11) (v := 0) rfl rfl (by decide) ?_
    refine g_iconst (pc' := 12) (v := 1) rfl rfl (by decide) ?_
    refine g_calli (pc' := 15) rfl rfl rfl rfl (Or.inl rfl) ?_
    refine c_isWithin (fun u1 u2 => ?_) (fun u0 => ?_)
    · refine g_if_ne (pc' := 18) (t := 21) rfl rfl rfl (fun _ => ?_) (fun c => absurd c (by decide))
      refine g_aload_n (pc' := 22) rfl rfl rfl ?_
      refine g_calli (pc' := 25) rfl rfl rfl rfl (Or.inr rfl) ?_
      refine c_tell3 hC h60 (fun hd => ?_) (fun Tt m1 hd hb f1 t1 c1 => ?_) (fun Tt m1 hd hb f1 t1 c1 => ?_)
      · refine g_istore_n (pc' := 26) rfl rfl rfl ?_
        refine g_iload_n (pc' := 27) rfl rfl rfl ?_
        refine g_if_eq (pc' := 30) (t := 32) rfl rfl rfl (fun c => absurd c (by decide)) (fun _ => ?_)
        refine g_iload_n (pc' := 31) rfl rfl rfl ?_
        exact g_ireturn rfl rfl (cf h (by unfold r_child; rw [if_neg (by rw [e]; exact nn (rn_3 hk)), if_neg (nn ⟨u1, u2⟩)]; unfold r_day; rw [hd]) Fr.rf hC)
      · refine g_istore_n (pc' := 26) rfl rfl rfl ?_
        refine g_iload_n (pc' := 27) rfl rfl rfl ?_
        refine g_if_eq (pc' := 30) (t := 32) rfl rfl rfl (fun _ => ?_) (fun c => absurd c (by decide))
        have er : r_child A x w = (if w = 0 then scoresB Tt.1 x else nutsB Tt.1 x, A) := by unfold r_child; rw [if_neg (by rw [e]; exact nn (rn_3 hk)), if_neg (nn ⟨u1, u2⟩)]; unfold r_day; rw [hd]; simp only [hb, if_true]
        refine g_iload_n (pc' := 33) rfl rfl rfl ?_
        refine g_if_ne (pc' := 36) (t := 47) rfl rfl rfl (fun c_33 => ?_) (fun c_33 => ?_)
        · refine g_aload_n (pc' := 48) rfl rfl rfl ?_
          refine g_getr (pc' := 51) rfl rfl (f_10_3) ?_
          refine g_iload_n (pc' := 52) rfl rfl rfl ?_
          refine g_calli (pc' := 55) rfl rfl rfl rfl (Or.inr (rc_S isS_11)) ?_
          refine c_nutsOfChild isS_11 ?_
          exact g_ireturn rfl rfl (g_eq (cf h er (f1.wide (by decide) (by decide)) c1) (by rw [t1.1, if_neg c_33]) rfl)
        · refine g_aload_n (pc' := 37) rfl rfl rfl ?_
          refine g_getr (pc' := 40) rfl rfl (f_10_3) ?_
          refine g_iload_n (pc' := 41) rfl rfl rfl ?_
          refine g_calli (pc' := 44) rfl rfl rfl rfl (Or.inr (rc_S isS_11)) ?_
          refine c_scoresOfChild isS_11 ?_
          refine g_goto (pc' := 55) rfl rfl ?_
          exact g_ireturn rfl rfl (g_eq (cf h er (f1.wide (by decide) (by decide)) c1) (by rw [t1.1, if_pos c_33]) rfl)
      · refine g_istore_n (pc' := 26) rfl rfl rfl ?_
        refine g_iload_n (pc' := 27) rfl rfl rfl ?_
        refine g_if_eq (pc' := 30) (t := 32) rfl rfl rfl (fun c => absurd c (by decide)) (fun _ => ?_)
        refine g_iload_n (pc' := 31) rfl rfl rfl ?_
        exact g_ireturn rfl rfl (cf h (by unfold r_child; rw [if_neg (by rw [e]; exact nn (rn_3 hk)), if_neg (nn ⟨u1, u2⟩)]; unfold r_day; rw [hd]; simp [hb]) (f1.wide (by decide) (by decide)) c1)
    · refine g_if_ne (pc' := 18) (t := 21) rfl rfl rfl (fun c => absurd c (by decide)) (fun _ => ?_)
      refine g_bipush (pc' := 20) (v := -2) rfl rfl (by decide) ?_
      exact g_ireturn rfl rfl (cf h (by unfold r_child; rw [if_neg (by rw [e]; exact nn (rn_3 hk)), if_pos u0]) Fr.rf hC)
  · refine g_if_ne (pc' := 7) (t := 9) rfl rfl rfl (fun c => absurd c (by decide)) (fun _ => ?_)
    refine g_iconst (pc' := 8) (v := -1) rfl rfl (by decide) ?_
    exact g_ireturn rfl rfl (cf h (by unfold r_child; rw [if_pos z]) Fr.rf hC)
theorem c_street {w : Int32} (hC : CI m A) (h60 : aN A ≤ 60) (h : ∀ m', Fr 1 53 m m' → CI m' (r_street A w).2 → K (r_street A w).1 m') : gCi X 83 [.ref 1, .int w] m K := by
  refine g_inI rfl ?_
  refine g_iload_n (pc' := 1) rfl rfl rfl ?_
  refine g_iconst (pc' := 2) (v := 0) rfl rfl (by decide) ?_
  refine g_iconst (pc' := 3) (v := 2) rfl rfl (by decide) ?_
  refine g_calli (pc' := 6) rfl rfl rfl rfl (Or.inl rfl) ?_
  refine c_isWithin (fun u1 u2 => ?_) (fun u0 => ?_)
  · refine g_if_ne (pc' := 9) (t := 12) rfl rfl rfl (fun _ => ?_) (fun c => absurd c (by decide))
    refine g_aload_n (pc' := 13) rfl rfl rfl ?_
    refine g_calli (pc' := 16) rfl rfl rfl rfl (Or.inr rfl) ?_
    refine c_tell3 hC h60 (fun hd => ?_) (fun Tt m1 hd hb f1 t1 c1 => ?_) (fun Tt m1 hd hb f1 t1 c1 => ?_)
    · refine g_istore_n (pc' := 17) rfl rfl rfl ?_
      refine g_iload_n (pc' := 18) rfl rfl rfl ?_
      refine g_if_eq (pc' := 21) (t := 23) rfl rfl rfl (fun c => absurd c (by decide)) (fun _ => ?_)
      refine g_iload_n (pc' := 22) rfl rfl rfl ?_
      exact g_ireturn rfl rfl (cf h (by unfold r_street; rw [if_neg (nn ⟨u1, u2⟩)]; unfold r_day; rw [hd]) Fr.rf hC)
    · refine g_istore_n (pc' := 17) rfl rfl rfl ?_
      refine g_iload_n (pc' := 18) rfl rfl rfl ?_
      refine g_if_eq (pc' := 21) (t := 23) rfl rfl rfl (fun _ => ?_) (fun c => absurd c (by decide))
      have er : r_street A w = (if w = 0 then brokenB Tt.1 else if w = 1 then sD Tt.1 else (bestB Tt.1).2, A) := by unfold r_street; rw [if_neg (nn ⟨u1, u2⟩)]; unfold r_day; rw [hd]; simp only [hb, if_true]
      refine g_iload_n (pc' := 24) rfl rfl rfl ?_
      refine g_if_ne (pc' := 27) (t := 37) rfl rfl rfl (fun c_24 => ?_) (fun c_24 => ?_)
      · refine g_iload_n (pc' := 38) rfl rfl rfl ?_
        refine g_iconst (pc' := 39) (v := 1) rfl rfl (by decide) ?_
        refine g_icmp_ne (pc' := 42) (t := 52) rfl rfl rfl (fun c_39 => ?_) (fun c_39 => ?_)
        · refine g_aload_n (pc' := 53) rfl rfl rfl ?_
          refine g_getr (pc' := 56) rfl rfl (f_10_3) ?_
          refine g_calli (pc' := 59) rfl rfl rfl rfl (Or.inr (rc_S isS_11)) ?_
          refine c_nutOfMostScore isS_11 ?_
          exact g_ireturn rfl rfl (g_eq (cf h er (f1.wide (by decide) (by decide)) c1) (by rw [t1.1, if_neg c_24, if_neg c_39]) rfl)
        · refine g_aload_n (pc' := 43) rfl rfl rfl ?_
          refine g_getr (pc' := 46) rfl rfl (f_10_3) ?_
          refine g_geti (pc' := 49) rfl rfl (i_8_5 isS_11) ?_
          refine g_vi (y := sD Tt.1) (by rw [← t1.1]; rfl) ?_
          refine g_goto (pc' := 59) rfl rfl ?_
          exact g_ireturn rfl rfl (g_eq (cf h er (f1.wide (by decide) (by decide)) c1) (by rw [if_neg c_24, if_pos c_39]) rfl)
      · refine g_aload_n (pc' := 28) rfl rfl rfl ?_
        refine g_getr (pc' := 31) rfl rfl (f_10_3) ?_
        refine g_calli (pc' := 34) rfl rfl rfl rfl (Or.inr (rc_S isS_11)) ?_
        refine c_brokenNuts isS_11 ?_
        refine g_goto (pc' := 59) rfl rfl ?_
        exact g_ireturn rfl rfl (g_eq (cf h er (f1.wide (by decide) (by decide)) c1) (by rw [t1.1, if_pos c_24]) rfl)
    · refine g_istore_n (pc' := 17) rfl rfl rfl ?_
      refine g_iload_n (pc' := 18) rfl rfl rfl ?_
      refine g_if_eq (pc' := 21) (t := 23) rfl rfl rfl (fun c => absurd c (by decide)) (fun _ => ?_)
      refine g_iload_n (pc' := 22) rfl rfl rfl ?_
      exact g_ireturn rfl rfl (cf h (by unfold r_street; rw [if_neg (nn ⟨u1, u2⟩)]; unfold r_day; rw [hd]; simp [hb]) (f1.wide (by decide) (by decide)) c1)
  · refine g_if_ne (pc' := 9) (t := 12) rfl rfl rfl (fun c => absurd c (by decide)) (fun _ => ?_)
    refine g_bipush (pc' := 11) (v := -2) rfl rfl (by decide) ?_
    exact g_ireturn rfl rfl (cf h (by unfold r_street; rw [if_pos u0]) Fr.rf hC)
theorem c_first {w : Int32} (hC : CI m A) (h60 : aN A ≤ 60) (h : ∀ m', Fr 1 53 m m' → CI m' (r_first A w).2 → K (r_first A w).1 m') : gCi X 84 [.ref 1, .int w] m K := by
  refine g_inI rfl ?_
  refine g_iload_n (pc' := 1) rfl rfl rfl ?_
  refine g_iconst (pc' := 2) (v := 0) rfl rfl (by decide) ?_
  refine g_iconst (pc' := 3) (v := 1) rfl rfl (by decide) ?_
  refine g_calli (pc' := 6) rfl rfl rfl rfl (Or.inl rfl) ?_
  refine c_isWithin (fun u1 u2 => ?_) (fun u0 => ?_)
  · refine g_if_ne (pc' := 9) (t := 12) rfl rfl rfl (fun _ => ?_) (fun c => absurd c (by decide))
    refine g_aload_n (pc' := 13) rfl rfl rfl ?_
    refine g_calli (pc' := 16) rfl rfl rfl rfl (Or.inr rfl) ?_
    refine c_tell3 hC h60 (fun hd => ?_) (fun Tt m1 hd hb f1 t1 c1 => ?_) (fun Tt m1 hd hb f1 t1 c1 => ?_)
    · refine g_istore_n (pc' := 17) rfl rfl rfl ?_
      refine g_iload_n (pc' := 18) rfl rfl rfl ?_
      refine g_if_eq (pc' := 21) (t := 23) rfl rfl rfl (fun c => absurd c (by decide)) (fun _ => ?_)
      refine g_iload_n (pc' := 22) rfl rfl rfl ?_
      exact g_ireturn rfl rfl (cf h (by unfold r_first; rw [if_neg (nn ⟨u1, u2⟩)]; unfold r_day; rw [hd]) Fr.rf hC)
    · refine g_istore_n (pc' := 17) rfl rfl rfl ?_
      refine g_iload_n (pc' := 18) rfl rfl rfl ?_
      refine g_if_eq (pc' := 21) (t := 23) rfl rfl rfl (fun _ => ?_) (fun c => absurd c (by decide))
      refine g_iload_n (pc' := 24) rfl rfl rfl ?_
      refine g_if_ne (pc' := 27) (t := 37) rfl rfl rfl (fun c_24 => ?_) (fun c_24 => ?_)
      · refine g_aload_n (pc' := 38) rfl rfl rfl ?_
        refine g_getr (pc' := 41) rfl rfl (f_10_2) ?_
        refine g_geti (pc' := 44) rfl rfl (i_9_6) ?_
        refine g_vi (y := Tt.2.2.2.2.2.2) (t1.2.2.2.2.2.2) ?_
        exact g_ireturn rfl rfl (cf h (by unfold r_first; rw [if_neg (nn ⟨u1, u2⟩)]; unfold r_day; rw [hd]; simp [hb, c_24]) (f1.wide (by decide) (by decide)) c1)
      · refine g_aload_n (pc' := 28) rfl rfl rfl ?_
        refine g_getr (pc' := 31) rfl rfl (f_10_2) ?_
        refine g_geti (pc' := 34) rfl rfl (i_9_5) ?_
        refine g_vi (y := Tt.2.2.2.2.2.1) (t1.2.2.2.2.2.1) ?_
        refine g_goto (pc' := 44) rfl rfl ?_
        exact g_ireturn rfl rfl (cf h (by unfold r_first; rw [if_neg (nn ⟨u1, u2⟩)]; unfold r_day; rw [hd]; simp [hb, c_24]) (f1.wide (by decide) (by decide)) c1)
    · refine g_istore_n (pc' := 17) rfl rfl rfl ?_
      refine g_iload_n (pc' := 18) rfl rfl rfl ?_
      refine g_if_eq (pc' := 21) (t := 23) rfl rfl rfl (fun c => absurd c (by decide)) (fun _ => ?_)
      refine g_iload_n (pc' := 22) rfl rfl rfl ?_
      exact g_ireturn rfl rfl (cf h (by unfold r_first; rw [if_neg (nn ⟨u1, u2⟩)]; unfold r_day; rw [hd]; simp [hb]) (f1.wide (by decide) (by decide)) c1)
  · refine g_if_ne (pc' := 9) (t := 12) rfl rfl rfl (fun c => absurd c (by decide)) (fun _ => ?_)
    refine g_bipush (pc' := 11) (v := -2) rfl rfl (by decide) ?_
    exact g_ireturn rfl rfl (cf h (by unfold r_first; rw [if_pos u0]) Fr.rf hC)
theorem c_done (hC : CI m A) (h60 : aN A ≤ 60) (h : ∀ m', Fr 1 53 m m' → CI m' (r_done A).2 → K (r_done A).1 m') : gCi X 85 [.ref 1] m K := by
  refine g_inI rfl ?_
  refine g_aload_n (pc' := 1) rfl rfl rfl ?_
  refine g_calli (pc' := 4) rfl rfl rfl rfl (Or.inr rfl) ?_
  refine c_tell3 hC h60 (fun hd => ?_) (fun Tt m1 hd hb f1 t1 c1 => ?_) (fun Tt m1 hd hb f1 t1 c1 => ?_)
  · refine g_istore_n (pc' := 5) rfl rfl rfl ?_
    refine g_iload_n (pc' := 6) rfl rfl rfl ?_
    refine g_if_eq (pc' := 9) (t := 11) rfl rfl rfl (fun c => absurd c (by decide)) (fun _ => ?_)
    refine g_iload_n (pc' := 10) rfl rfl rfl ?_
    exact g_ireturn rfl rfl (cf h (by unfold r_done; rw [hd]) Fr.rf hC)
  · refine g_istore_n (pc' := 5) rfl rfl rfl ?_
    refine g_iload_n (pc' := 6) rfl rfl rfl ?_
    refine g_if_eq (pc' := 9) (t := 11) rfl rfl rfl (fun _ => ?_) (fun c => absurd c (by decide))
    refine g_aload_n (pc' := 12) rfl rfl rfl ?_
    refine g_getr (pc' := 15) rfl rfl (f_10_0) ?_
    refine g_aload_n (pc' := 16) rfl rfl rfl ?_
    refine g_getr (pc' := 19) rfl rfl (f_10_3) ?_
    refine g_callv (pc' := 22) rfl rfl rfl rfl (Or.inr (rc_S isS_2)) ?_
    refine c_copyFrom isS_2 isS_11 (by decide) (fun m2 f2 e2 => ?_)
    refine g_aload_n (pc' := 23) rfl rfl rfl ?_
    refine g_getr (pc' := 26) rfl rfl (f_10_1) ?_
    refine g_iconst (pc' := 27) (v := 0) rfl rfl (by decide) ?_
    refine g_puti (pc' := 30) rfl rfl (i_4_1) ?_
    refine g_aload_n (pc' := 31) rfl rfl rfl ?_
    refine g_getr (pc' := 34) rfl rfl (f_10_2) ?_
    refine g_geti (pc' := 37) rfl rfl (i_9_1) ?_
    refine g_vi (y := nI Tt.2.1) (by show am_wi m2.1 8 1 0 10 1 = _; rw [am_wi_n (by decide), f2.i (by omega)]; exact t1.2.1) ?_
    exact g_ireturn rfl rfl (cf (A' := pA (setA A Tt.1) 0 (fun _ => 0)) h (by unfold r_done; rw [hd]; simp only [hb, if_true]) (((f1.wide (by decide) (by decide)).tr (f2.wide (by decide) (by decide))).s (by omega) (by omega)) ⟨(st_wx (by omega)).trans (e2.trans t1.1), rfl, by funext q; rfl, (Fr.sg (Fr.wi (Nat.le_refl 8) (by decide : 8 < 9)) (by omega)).trans ((f2.sg (by omega)).trans c1.2.2.2.1), Fr.im (Fr.wi (Nat.le_refl 8) (by decide : 8 < 9)) (by omega) (f2.im (by omega) c1.2.2.2.2.1), Fr.im (Fr.wi (Nat.le_refl 8) (by decide : 8 < 9)) (by omega) (f2.im (by omega) c1.2.2.2.2.2.1), Fr.rg (Fr.wi (Nat.le_refl 8) (by decide : 8 < 9)) (by omega) (f2.rg (by omega) c1.2.2.2.2.2.2)⟩)
  · refine g_istore_n (pc' := 5) rfl rfl rfl ?_
    refine g_iload_n (pc' := 6) rfl rfl rfl ?_
    refine g_if_eq (pc' := 9) (t := 11) rfl rfl rfl (fun c => absurd c (by decide)) (fun _ => ?_)
    refine g_iload_n (pc' := 10) rfl rfl rfl ?_
    exact g_ireturn rfl rfl (cf h (by unfold r_done; rw [hd]; simp only [hb, if_false]) (f1.wide (by decide) (by decide)) c1)
end C8
