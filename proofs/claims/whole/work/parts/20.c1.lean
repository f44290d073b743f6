/-! PURE WORDS, and the smallest contracts -/
def fN {α : Type} (f : Nat → α → α) : Nat → α → α
  | 0, a => a
  | n + 1, a => f n (fN f n a)
theorem fN_congr {α : Type} {f g : Nat → α → α} : ∀ (n : Nat) (a : α), (∀ k, k < n → ∀ a, f k a = g k a) → fN f n a = fN g n a
  | 0, a, h => rfl
  | n + 1, a, h => by
    unfold fN
    rw [fN_congr n a (fun k hk => h k (by omega)), h n (by omega)]
abbrev aStr : Type := (Nat → Int32) × (Nat → Int32) × (Nat → Int32) × (Nat → Int32) × (Nat → Int32) × Int32
def cut (n : Nat) (f : Nat → Int32) : Nat → Int32 := fun i => if i < n then f i else 0
theorem cut_at {n k : Nat} {f : Nat → Int32} (h : k < n) : cut n f k = f k := by simp [cut, h]
theorem cut_ge {n k : Nat} {f : Nat → Int32} (h : n ≤ k) : cut n f k = 0 := by simp [cut]; omega
theorem cut_upd {n k : Nat} {f : Nat → Int32} {v : Int32} (h : k < n) : cut n (upd f k v) = upd (cut n f) k v := by
  funext i
  unfold cut upd
  by_cases hi : i = k
  · subst hi; simp [h]
  · simp [hi]
theorem cut_ext {n : Nat} {f g : Nat → Int32} (h : ∀ k, k < n → f k = g k) : cut n f = cut n g := by
  funext i
  unfold cut
  by_cases hi : i < n
  · simp [hi, h i hi]
  · simp [hi]
def sH (s : aStr) : Nat → Int32 := s.1
def sC (s : aStr) : Nat → Int32 := s.2.1
def sS (s : aStr) : Nat → Int32 := s.2.2.1
def sO (s : aStr) : Nat → Int32 := s.2.2.2.1
def sI (s : aStr) : Nat → Int32 := s.2.2.2.2.1
def sD (s : aStr) : Int32 := s.2.2.2.2.2
def stAt (m : aMem) (p : Nat) : aStr := (cut 10 (m.1 (p + 1)), cut 10 (m.1 (p + 2)), cut 10 (m.1 (p + 3)), cut 10 (m.1 (p + 4)), cut 10 (m.1 (p + 5)), m.1 p 5)
section ST
variable {m m' : aMem} {p k : Nat}
theorem st_H (h : k < 10) : m.1 (p + 1) k = sH (stAt m p) k := (cut_at h).symm
theorem st_C (h : k < 10) : m.1 (p + 2) k = sC (stAt m p) k := (cut_at h).symm
theorem st_S (h : k < 10) : m.1 (p + 3) k = sS (stAt m p) k := (cut_at h).symm
theorem st_O (h : k < 10) : m.1 (p + 4) k = sO (stAt m p) k := (cut_at h).symm
theorem st_I (h : k < 10) : m.1 (p + 5) k = sI (stAt m p) k := (cut_at h).symm
theorem st_D : m.1 p 5 = sD (stAt m p) := rfl
/-- nothing outside the cells lo .. hi - 1 has changed -/
def Fr (lo hi : Nat) (m m' : aMem) : Prop := (∀ q, (q < lo ∨ hi ≤ q) → m'.1 q = m.1 q) ∧ ∀ q, (q < lo ∨ hi ≤ q) → m'.2 q = m.2 q
theorem Fr.rf {lo hi : Nat} : Fr lo hi m m := ⟨fun _ _ => rfl, fun _ _ => rfl⟩
theorem Fr.tr {lo hi : Nat} {m'' : aMem} (h : Fr lo hi m m') (h' : Fr lo hi m' m'') : Fr lo hi m m'' := ⟨fun q hq => (h'.1 q hq).trans (h.1 q hq), fun q hq => (h'.2 q hq).trans (h.2 q hq)⟩
theorem Fr.wide {lo hi lo' hi' : Nat} (h : Fr lo hi m m') (h1 : lo' ≤ lo) (h2 : hi ≤ hi') : Fr lo' hi' m m' := ⟨fun q hq => h.1 q (by omega), fun q hq => h.2 q (by omega)⟩
theorem Fr.wi {lo hi o i : Nat} {v : Int32} (h1 : lo ≤ o) (h2 : o < hi) : Fr lo hi m (am_wi m.1 o i v, m.2) := ⟨fun q hq => am_wi_n (by omega), fun _ _ => rfl⟩
theorem Fr.wl {lo hi o i : Nat} {v : Int64} (h1 : lo ≤ o) (h2 : o < hi) : Fr lo hi m (m.1, am_wl m.2 o i v) := ⟨fun _ _ => rfl, fun q hq => am_wl_n (by omega)⟩
theorem Fr.i {lo hi q : Nat} (h : Fr lo hi m m') (hq : q < lo ∨ hi ≤ q) : m'.1 q = m.1 q := h.1 q hq
theorem Fr.st {lo hi : Nat} (h : Fr lo hi m m') (hq : p + 5 < lo ∨ hi ≤ p) : stAt m' p = stAt m p := by
  unfold stAt
  rw [h.1 p (by omega), h.1 (p + 1) (by omega), h.1 (p + 2) (by omega), h.1 (p + 3) (by omega), h.1 (p + 4) (by omega), h.1 (p + 5) (by omega)]
def uH (s : aStr) (k : Nat) (v : Int32) : aStr := (upd (sH s) k v, sC s, sS s, sO s, sI s, sD s)
def uC (s : aStr) (k : Nat) (v : Int32) : aStr := (sH s, upd (sC s) k v, sS s, sO s, sI s, sD s)
def uS (s : aStr) (k : Nat) (v : Int32) : aStr := (sH s, sC s, upd (sS s) k v, sO s, sI s, sD s)
def uO (s : aStr) (k : Nat) (v : Int32) : aStr := (sH s, sC s, sS s, upd (sO s) k v, sI s, sD s)
def uI (s : aStr) (k : Nat) (v : Int32) : aStr := (sH s, sC s, sS s, sO s, upd (sI s) k v, sD s)
def uD (s : aStr) (v : Int32) : aStr := (sH s, sC s, sS s, sO s, sI s, v)
theorem st_wH {v : Int32} (h : k < 10) : stAt (am_wi m.1 (p + 1) k v, m.2) p = uH (stAt m p) k v := by
  simp only [stAt, uH, sH, sC, sS, sO, sI, sD, am_wi_s, am_wi_n (show p ≠ p + 1 by omega), am_wi_n (show p + 2 ≠ p + 1 by omega), am_wi_n (show p + 3 ≠ p + 1 by omega), am_wi_n (show p + 4 ≠ p + 1 by omega), am_wi_n (show p + 5 ≠ p + 1 by omega), cut_upd h]
theorem st_wC {v : Int32} (h : k < 10) : stAt (am_wi m.1 (p + 2) k v, m.2) p = uC (stAt m p) k v := by
  simp only [stAt, uC, sH, sC, sS, sO, sI, sD, am_wi_s, am_wi_n (show p ≠ p + 2 by omega), am_wi_n (show p + 1 ≠ p + 2 by omega), am_wi_n (show p + 3 ≠ p + 2 by omega), am_wi_n (show p + 4 ≠ p + 2 by omega), am_wi_n (show p + 5 ≠ p + 2 by omega), cut_upd h]
theorem st_wS {v : Int32} (h : k < 10) : stAt (am_wi m.1 (p + 3) k v, m.2) p = uS (stAt m p) k v := by
  simp only [stAt, uS, sH, sC, sS, sO, sI, sD, am_wi_s, am_wi_n (show p ≠ p + 3 by omega), am_wi_n (show p + 1 ≠ p + 3 by omega), am_wi_n (show p + 2 ≠ p + 3 by omega), am_wi_n (show p + 4 ≠ p + 3 by omega), am_wi_n (show p + 5 ≠ p + 3 by omega), cut_upd h]
theorem st_wO {v : Int32} (h : k < 10) : stAt (am_wi m.1 (p + 4) k v, m.2) p = uO (stAt m p) k v := by
  simp only [stAt, uO, sH, sC, sS, sO, sI, sD, am_wi_s, am_wi_n (show p ≠ p + 4 by omega), am_wi_n (show p + 1 ≠ p + 4 by omega), am_wi_n (show p + 2 ≠ p + 4 by omega), am_wi_n (show p + 3 ≠ p + 4 by omega), am_wi_n (show p + 5 ≠ p + 4 by omega), cut_upd h]
theorem st_wI {v : Int32} (h : k < 10) : stAt (am_wi m.1 (p + 5) k v, m.2) p = uI (stAt m p) k v := by
  simp only [stAt, uI, sH, sC, sS, sO, sI, sD, am_wi_s, am_wi_n (show p ≠ p + 5 by omega), am_wi_n (show p + 1 ≠ p + 5 by omega), am_wi_n (show p + 2 ≠ p + 5 by omega), am_wi_n (show p + 3 ≠ p + 5 by omega), am_wi_n (show p + 4 ≠ p + 5 by omega), cut_upd h]
theorem st_wD {v : Int32} : stAt (am_wi m.1 p 5 v, m.2) p = uD (stAt m p) v := by
  simp only [stAt, uD, sH, sC, sS, sO, sI, sD, am_wi_s, am_wi_n (show p + 1 ≠ p by omega), am_wi_n (show p + 2 ≠ p by omega), am_wi_n (show p + 3 ≠ p by omega), am_wi_n (show p + 4 ≠ p by omega), am_wi_n (show p + 5 ≠ p by omega)]
  simp [upd]
theorem st_wx {o i : Nat} {v : Int32} (h : o < p ∨ p + 5 < o ∨ (o = p ∧ i ≠ 5)) : stAt (am_wi m.1 o i v, m.2) p = stAt m p := by
  rcases h with h | h | ⟨rfl, h⟩
  · exact (Fr.wi (Nat.le_refl o) (Nat.lt_succ_self o)).st (by omega)
  · exact (Fr.wi (Nat.le_refl o) (Nat.lt_succ_self o)).st (by omega)
  · simp only [stAt, am_wi_s, am_wi_n (show o + 1 ≠ o by omega), am_wi_n (show o + 2 ≠ o by omega), am_wi_n (show o + 3 ≠ o by omega), am_wi_n (show o + 4 ≠ o by omega), am_wi_n (show o + 5 ≠ o by omega)]
    simp [upd, Ne.symm h]
end ST
theorem i_lt_nle {x y : Int32} (h : x < y) : ¬ y ≤ x := by
  rw [Int32.lt_iff_toInt_lt] at h
  rw [Int32.le_iff_toInt_le]
  omega
theorem i_nlt_le {x y : Int32} (h : ¬ x < y) : y ≤ x := by
  rw [Int32.lt_iff_toInt_lt] at h
  rw [Int32.le_iff_toInt_le]
  omega
theorem i_nle_lt {x y : Int32} (h : ¬ x ≤ y) : y < x := by
  rw [Int32.le_iff_toInt_le] at h
  rw [Int32.lt_iff_toInt_lt]
  omega
/-- a number between 0 and n -/
theorem i_in {x M : Int32} {n : Nat} (hM : M.toInt = n) (h0 : 0 ≤ x) (h1 : x ≤ M) : ∃ k, k < n + 1 ∧ x = nI k := by
  obtain ⟨k, h, e⟩ := nI_of2 hM (fun q => i_lt_nle q h0) h1
  exact ⟨k, by omega, e⟩
section C1
variable {X : aX} {m : aMem} {K : Int32 → aMem → Prop}

theorem c_isWithin {x lo hi : Int32} (h1 : lo ≤ x → x ≤ hi → K 1 m) (h0 : ¬ (lo ≤ x ∧ x ≤ hi) → K 0 m) : gCi X 103 [.int x, .int lo, .int hi] m K := by
  refine g_inI rfl ?_
  refine g_iload_n (pc' := 1) rfl rfl rfl ?_
  refine g_iload_n (pc' := 2) rfl rfl rfl ?_
  refine g_icmp_lt (pc' := 5) (t := 14) rfl rfl rfl (fun c_2 => ?_) (fun c_2 => ?_)
  · refine g_iconst (pc' := 15) (v := 0) rfl rfl (by decide) ?_
    exact g_zreturn rfl rfl (by decide) (h0 (fun q => i_lt_nle c_2 q.1))
  · refine g_iload_n (pc' := 6) rfl rfl rfl ?_
    refine g_iload_n (pc' := 7) rfl rfl rfl ?_
    refine g_icmp_gt (pc' := 10) (t := 14) rfl rfl rfl (fun c_7 => ?_) (fun c_7 => ?_)
    · refine g_iconst (pc' := 15) (v := 0) rfl rfl (by decide) ?_
      exact g_zreturn rfl rfl (by decide) (h0 (fun q => i_lt_nle c_7 q.2))
    · refine g_iconst (pc' := 11) (v := 1) rfl rfl (by decide) ?_
      refine g_goto (pc' := 15) rfl rfl ?_
      exact g_zreturn rfl rfl (by decide) (h1 (i_nlt_le c_2) (i_nlt_le c_7))
theorem c_isNut {x : Int32} (h1 : ∀ k, k < 10 → x = nI k → K 1 m) (h0 : ¬ (0 ≤ x ∧ x ≤ 9) → K 0 m) : gCi X 101 [.int x] m K := by
  refine g_inI rfl ?_
  refine g_iload_n (pc' := 1) rfl rfl rfl ?_
  refine g_iconst (pc' := 2) (v := 0) rfl rfl (by decide) ?_
  refine g_bipush (pc' := 4) (v := 9) rfl rfl (by decide) ?_
  refine g_calli (pc' := 7) rfl rfl rfl rfl (Or.inl rfl) ?_
  refine c_isWithin (fun q1 q2 => ?_) (fun q => ?_)
  · exact g_zreturn rfl rfl (by decide) (by obtain ⟨k, hk, e⟩ := i_in (n := 9) (by decide) q1 q2; exact h1 k hk e)
  · exact g_zreturn rfl rfl (by decide) (h0 q)
theorem c_isChild {x : Int32} (h1 : ∀ k, k < 4 → x = nI k → K 1 m) (h0 : ¬ (0 ≤ x ∧ x ≤ 3) → K 0 m) : gCi X 102 [.int x] m K := by
  refine g_inI rfl ?_
  refine g_iload_n (pc' := 1) rfl rfl rfl ?_
  refine g_iconst (pc' := 2) (v := 0) rfl rfl (by decide) ?_
  refine g_iconst (pc' := 3) (v := 3) rfl rfl (by decide) ?_
  refine g_calli (pc' := 6) rfl rfl rfl rfl (Or.inl rfl) ?_
  refine c_isWithin (fun q1 q2 => ?_) (fun q => ?_)
  · exact g_zreturn rfl rfl (by decide) (by obtain ⟨k, hk, e⟩ := i_in (n := 3) (by decide) q1 q2; exact h1 k hk e)
  · exact g_zreturn rfl rfl (by decide) (h0 q)
theorem c_isBroken {p k : Nat} (hp : isS p) (hk : k < 10) (h1 : sC (stAt m p) k = 3 → K 1 m) (h0 : ¬ sC (stAt m p) k = 3 → K 0 m) : gCi X 52 [.ref p, .int (nI k)] m K := by
  refine g_inI rfl ?_
  refine g_aload_n (pc' := 1) rfl rfl rfl ?_
  refine g_getr (pc' := 4) rfl rfl (f_8_1 hp) ?_
  refine g_iload_n (pc' := 5) rfl rfl rfl ?_
  refine g_iald (pc' := 6) rfl rfl (a_S2 hp) hk rfl ?_
  refine g_vi (y := sC (stAt m p) k) (st_C hk) ?_
  refine g_iconst (pc' := 7) (v := 3) rfl rfl (by decide) ?_
  refine g_icmp_ne (pc' := 10) (t := 14) rfl rfl rfl (fun c_7 => ?_) (fun c_7 => ?_)
  · refine g_iconst (pc' := 15) (v := 0) rfl rfl (by decide) ?_
    exact g_zreturn rfl rfl (by decide) (h0 c_7)
  · refine g_iconst (pc' := 11) (v := 1) rfl rfl (by decide) ?_
    refine g_goto (pc' := 15) rfl rfl ?_
    exact g_zreturn rfl rfl (by decide) (h1 c_7)
end C1
