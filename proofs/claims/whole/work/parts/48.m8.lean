/-! THE MODEL: images -/
section M8
variable {X : aX} {m : aMem} {A : aA} {K : Int32 → aMem → Prop}
theorem d_pass1 {a : Nat} {v : Int32} (hw : m.1 53 35 = 1) (ha : m.1 53 34 = nI a) (h140 : a < 140) (h : K v (am_wi (am_wi m.1 71 a v) 53 34 (nI (a + 1)), m.2)) : gCi X 172 [.ref 53, .int v] m K := by
  refine g_inI rfl ?_
  refine g_aload_n (pc' := 1) rfl rfl rfl ?_
  refine g_getb (pc' := 4) rfl rfl (i_11_35) ?_
  refine g_vi (y := 1) (hw) ?_
  refine g_if_eq (pc' := 7) (t := 11) rfl rfl rfl (fun c_4 => absurd c_4 (by decide)) (fun c_4 => ?_)
  refine g_iload_n (pc' := 8) rfl rfl rfl ?_
  refine g_goto (pc' := 20) rfl rfl ?_
  refine g_istore_n (pc' := 21) rfl rfl rfl ?_
  refine g_aload_n (pc' := 22) rfl rfl rfl ?_
  refine g_getr (pc' := 25) rfl rfl (f_11_32) ?_
  refine g_aload_n (pc' := 26) rfl rfl rfl ?_
  refine g_geti (pc' := 29) rfl rfl (i_11_34) ?_
  refine g_vi (y := nI a) (ha) ?_
  refine g_iload_n (pc' := 30) rfl rfl rfl ?_
  refine g_iast (pc' := 31) rfl rfl (a_71) h140 rfl ?_
  refine g_aload_n (pc' := 32) rfl rfl rfl ?_
  refine g_dup (pc' := 33) rfl rfl rfl ?_
  refine g_geti (pc' := 36) rfl rfl (i_11_34) ?_
  refine g_vi (y := nI a) (by show am_wi m.1 71 a v 53 34 = nI a; rw [am_wi_n (by decide)]; exact ha) ?_
  refine g_iconst (pc' := 37) (v := 1) rfl rfl (by decide) ?_
  refine g_iadd (pc' := 38) rfl rfl ?_
  refine g_vi (y := nI (a + 1)) (nI_1 a) ?_
  refine g_puti (pc' := 41) rfl rfl (i_11_34) ?_
  refine g_iload_n (pc' := 42) rfl rfl rfl ?_
  exact g_ireturn rfl rfl (h)
theorem d_pass0 {a : Nat} {v : Int32} (hw : m.1 53 35 = 0) (ha : m.1 53 34 = nI a) (h140 : a < 140) (h : K (m.1 71 a) (am_wi (am_wi m.1 71 a (m.1 71 a)) 53 34 (nI (a + 1)), m.2)) : gCi X 172 [.ref 53, .int v] m K := by
  refine g_inI rfl ?_
  refine g_aload_n (pc' := 1) rfl rfl rfl ?_
  refine g_getb (pc' := 4) rfl rfl (i_11_35) ?_
  refine g_vi (y := 0) (hw) ?_
  refine g_if_eq (pc' := 7) (t := 11) rfl rfl rfl (fun c_4 => ?_) (fun c_4 => absurd c_4 (by decide))
  refine g_aload_n (pc' := 12) rfl rfl rfl ?_
  refine g_getr (pc' := 15) rfl rfl (f_11_32) ?_
  refine g_aload_n (pc' := 16) rfl rfl rfl ?_
  refine g_geti (pc' := 19) rfl rfl (i_11_34) ?_
  refine g_vi (y := nI a) (ha) ?_
  refine g_iald (pc' := 20) rfl rfl (a_71) h140 rfl ?_
  refine g_istore_n (pc' := 21) rfl rfl rfl ?_
  refine g_aload_n (pc' := 22) rfl rfl rfl ?_
  refine g_getr (pc' := 25) rfl rfl (f_11_32) ?_
  refine g_aload_n (pc' := 26) rfl rfl rfl ?_
  refine g_geti (pc' := 29) rfl rfl (i_11_34) ?_
  refine g_vi (y := nI a) (ha) ?_
  refine g_iload_n (pc' := 30) rfl rfl rfl ?_
  refine g_iast (pc' := 31) rfl rfl (a_71) h140 rfl ?_
  refine g_aload_n (pc' := 32) rfl rfl rfl ?_
  refine g_dup (pc' := 33) rfl rfl rfl ?_
  refine g_geti (pc' := 36) rfl rfl (i_11_34) ?_
  refine g_vi (y := nI a) (by show am_wi m.1 71 a (m.1 71 a) 53 34 = nI a; rw [am_wi_n (by decide)]; exact ha) ?_
  refine g_iconst (pc' := 37) (v := 1) rfl rfl (by decide) ?_
  refine g_iadd (pc' := 38) rfl rfl ?_
  refine g_vi (y := nI (a + 1)) (nI_1 a) ?_
  refine g_puti (pc' := 41) rfl rfl (i_11_34) ?_
  refine g_iload_n (pc' := 42) rfl rfl rfl ?_
  exact g_ireturn rfl rfl (h)
theorem d_pass {wr : Bool} {a : Nat} {v : Int32} (hw : m.1 53 35 = if wr = true then 1 else 0) (ha : m.1 53 34 = nI a) (h140 : a < 140) (h : K (if wr = true then v else m.1 71 a) (am_wi (am_wi m.1 71 a (if wr = true then v else m.1 71 a)) 53 34 (nI (a + 1)), m.2)) : gCi X 172 [.ref 53, .int v] m K := by
  cases wr with
  | true => exact d_pass1 hw ha h140 h
  | false => exact d_pass0 hw ha h140 h
/-- a row of `n` that lies at `o` has gone by, to or from place `a` -/
def PS (wr : Bool) (m m' : aMem) (o a n : Nat) : Prop := (∀ q, q ≠ 53 → q ≠ 71 → q ≠ o → m'.1 q = m.1 q) ∧ m'.2 = m.2 ∧ (∀ i, i ≠ 34 → m'.1 53 i = m.1 53 i) ∧ m'.1 53 34 = nI (a + n) ∧ (∀ i, i < n → m'.1 o i = (if wr = true then m.1 o i else m.1 71 (a + i)) ∧ m'.1 71 (a + i) = (if wr = true then m.1 o i else m.1 71 (a + i))) ∧ (∀ i, n ≤ i → m'.1 o i = m.1 o i) ∧ ∀ q, (q < a ∨ a + n ≤ q) → m'.1 71 q = m.1 71 q
theorem PS.s {wr : Bool} {m1 : aMem} {o a n : Nat} {x : Int32} (h : PS wr m m1 o a n) (h53 : o ≠ 53) (h71 : o ≠ 71) (hx : x = if wr = true then m.1 o n else m.1 71 (a + n)) : PS wr m (am_wi (am_wi (am_wi m1.1 71 (a + n) x) 53 34 (nI (a + n + 1))) o n x, m1.2) o a (n + 1) := by
  obtain ⟨h1, h2, h3, h4, h5, h6, h7⟩ := h
  have e53 : am_wi (am_wi (am_wi m1.1 71 (a + n) x) 53 34 (nI (a + n + 1))) o n x 53 = upd (m1.1 53) 34 (nI (a + n + 1)) := by rw [am_wi_n (Ne.symm h53), am_wi_s, am_wi_n (by decide)]
  have e71 : am_wi (am_wi (am_wi m1.1 71 (a + n) x) 53 34 (nI (a + n + 1))) o n x 71 = upd (m1.1 71) (a + n) x := by rw [am_wi_n (Ne.symm h71), am_wi_n (by decide), am_wi_s]
  have eo : am_wi (am_wi (am_wi m1.1 71 (a + n) x) 53 34 (nI (a + n + 1))) o n x o = upd (m1.1 o) n x := by rw [am_wi_s, am_wi_n h53, am_wi_n h71]
  refine ⟨fun q a1 a2 a3 => ?_, h2, fun i hi => ?_, ?_, fun i hi => ?_, fun i hi => ?_, fun q hq => ?_⟩
  · show am_wi (am_wi (am_wi m1.1 71 (a + n) x) 53 34 (nI (a + n + 1))) o n x q = _
    rw [am_wi_n a3, am_wi_n a1, am_wi_n a2]; exact h1 q a1 a2 a3
  · show am_wi (am_wi (am_wi m1.1 71 (a + n) x) 53 34 (nI (a + n + 1))) o n x 53 i = _
    rw [e53, upd_ne hi]; exact h3 i hi
  · show am_wi (am_wi (am_wi m1.1 71 (a + n) x) 53 34 (nI (a + n + 1))) o n x 53 34 = _
    rw [e53, upd_at]; rfl
  · show am_wi (am_wi (am_wi m1.1 71 (a + n) x) 53 34 (nI (a + n + 1))) o n x o i = _ ∧ am_wi (am_wi (am_wi m1.1 71 (a + n) x) 53 34 (nI (a + n + 1))) o n x 71 (a + i) = _
    rw [eo, e71]
    by_cases e : i = n
    · subst e; rw [upd_at, upd_at, hx]; exact ⟨rfl, rfl⟩
    · rw [upd_ne e, upd_ne (by omega)]; exact h5 i (by omega)
  · show am_wi (am_wi (am_wi m1.1 71 (a + n) x) 53 34 (nI (a + n + 1))) o n x o i = _
    rw [eo, upd_ne (by omega)]; exact h6 i (by omega)
  · show am_wi (am_wi (am_wi m1.1 71 (a + n) x) 53 34 (nI (a + n + 1))) o n x 71 q = _
    rw [e71, upd_ne (by omega)]; exact h7 q (by omega)
theorem d_passRow {K : aMem → Prop} {wr : Bool} {o a n ln : Nat} (hg : am_ga false ln o = true) (hln : n ≤ ln) (h53 : o ≠ 53) (h71 : o ≠ 71) (hw : m.1 53 35 = if wr = true then 1 else 0) (ha : m.1 53 34 = nI a) (h140 : a + n ≤ 140) (h : ∀ m', PS wr m m' o a n → K m') : gCv X 173 [.ref 53, .ref o, .int (nI n)] m K := by
  refine g_inV rfl ?_
  have loop : ∀ (d i : Nat) (m1 : aMem), i + d = n → PS wr m m1 o a i → gG X 173 2 [.ref 53, .ref o, .int (nI n), .int (nI i)] [] m1 (fun r m' => r = none ∧ K m') := by
    intro d
    induction d with
    | zero =>
      intro i m1 hd hP
      have hi : i = n := by omega
      subst hi
      refine g_iload_n (pc' := 3) rfl rfl rfl ?_
      refine g_iload_n (pc' := 4) rfl rfl rfl ?_
      refine g_icmp_ge (pc' := 7) (t := 23) rfl rfl rfl (fun c_4 => ?_) (fun c_4 => absurd (nI_le (Nat.le_refl i) (by omega)) c_4)
      exact g_return rfl rfl (h m1 hP)
    | succ d ih =>
      intro i m1 hd hP
      have hlt : i < n := by omega
      refine g_iload_n (pc' := 3) rfl rfl rfl ?_
      refine g_iload_n (pc' := 4) rfl rfl rfl ?_
      refine g_icmp_ge (pc' := 7) (t := 23) rfl rfl rfl (fun c_4 => absurd c_4 (nI_ge hlt (by omega))) (fun c_4 => ?_)
      refine g_aload_n (pc' := 8) rfl rfl rfl ?_
      refine g_iload_n (pc' := 9) rfl rfl rfl ?_
      refine g_aload_n (pc' := 10) rfl rfl rfl ?_
      refine g_aload_n (pc' := 11) rfl rfl rfl ?_
      refine g_iload_n (pc' := 12) rfl rfl rfl ?_
      refine g_iald (pc' := 13) rfl rfl (hg) (k := i) (by omega) rfl ?_
      refine g_vi (y := m.1 o i) (hP.2.2.2.2.2.1 i (Nat.le_refl _)) ?_
      refine g_calli (pc' := 16) rfl rfl rfl rfl (Or.inr rfl) ?_
      refine d_pass (a := a + i) ((hP.2.2.1 35 (by decide)).trans hw) hP.2.2.2.1 (by omega) ?_
      refine g_iast (pc' := 17) rfl rfl (hg) (k := i) (by omega) rfl ?_
      refine g_iinc (pc' := 20) (v := nI (i + 1)) rfl rfl rfl (nI_1 i) rfl ?_
      refine g_goto (pc' := 2) rfl rfl ?_
      exact ih (i + 1) _ (by omega) (hP.s h53 h71 (by rw [hP.2.2.2.2.2.2 (a + i) (by omega)]))
  refine g_iconst (pc' := 1) (v := 0) rfl rfl (by decide) ?_
  refine g_istore_n (pc' := 2) rfl rfl rfl ?_
  exact loop n 0 m (by omega) ⟨fun _ _ _ _ => rfl, rfl, fun _ _ => rfl, ha, fun i hi => absurd hi (by omega), fun _ _ => rfl, fun _ _ => rfl⟩
def cB (o : Nat) : Nat := if o ≤ 58 then 2 + 10 * (o - 54) else 52 + 8 * (o - 59)
def lB (o : Nat) : Nat := if o ≤ 58 then 10 else 8
def Wv (wr : Bool) (m : aMem) (B o i : Nat) : Int32 := if wr = true then m.1 o i else m.1 71 (B + cB o + i)
def Inv (wr : Bool) (m m' : aMem) (B p : Nat) : Prop := (∀ q, q ≠ 53 → q ≠ 71 → (q < 54 ∨ p ≤ q) → m'.1 q = m.1 q) ∧ m'.2 = m.2 ∧ (∀ i, i ≠ 34 → i ≠ 5 → i ≠ 8 → m'.1 53 i = m.1 53 i) ∧ m'.1 53 34 = nI (B + cB p) ∧ (∀ o i, 54 ≤ o → o < p → i < lB o → m'.1 o i = Wv wr m B o i ∧ m'.1 71 (B + cB o + i) = Wv wr m B o i) ∧ (∀ q, (q < B ∨ B + cB p ≤ q) → m'.1 71 q = m.1 71 q) ∧ (m'.1 53 5 = (if wr = true then m.1 53 5 else m.1 71 B) ∧ m'.1 71 B = (if wr = true then m.1 53 5 else m.1 71 B)) ∧ (m'.1 53 8 = (if wr = true then m.1 53 8 else m.1 71 (B + 1)) ∧ m'.1 71 (B + 1) = (if wr = true then m.1 53 8 else m.1 71 (B + 1)))
theorem cB_m {o p : Nat} (h0 : 54 ≤ o) (h : o < p) (hp : p ≤ 61) : cB o + lB o ≤ cB p ∧ 2 ≤ cB o := by
  unfold cB lB
  repeat' split
  all_goals omega
theorem cB_s {p : Nat} (h0 : 54 ≤ p) (hp : p < 61) : cB (p + 1) = cB p + lB p := by
  unfold cB lB
  repeat' split
  all_goals omega
theorem Inv.s {wr : Bool} {m1 m2 : aMem} {B p : Nat} (h : Inv wr m m1 B p) (hp : 54 ≤ p) (hp2 : p < 61) (hP : PS wr m1 m2 p (B + cB p) (lB p)) : Inv wr m m2 B (p + 1) := by
  obtain ⟨h1, h2, h3, h4, h5, h6, h7, h8⟩ := h
  obtain ⟨p1, p2, p3, p4, p5, p6, p7⟩ := hP
  have hs := cB_s hp hp2
  have hc : 2 ≤ cB p := (cB_m hp (Nat.lt_succ_self p) (by omega)).2
  refine ⟨fun q a b c => (p1 q a b (by omega)).trans (h1 q a b (by omega)), p2.trans h2, fun i a b c => (p3 i a).trans (h3 i a b c), ?_, fun o i a b c => ?_, fun q hq => (p7 q (by omega)).trans (h6 q (by omega)), ⟨(p3 5 (by decide)).trans h7.1, (p7 B (by omega)).trans h7.2⟩, ⟨(p3 8 (by decide)).trans h8.1, (p7 (B + 1) (by omega)).trans h8.2⟩⟩
  · rw [p4, hs, Nat.add_assoc]
  · by_cases e : o = p
    · subst e
      have := p5 i c
      rw [h1 o (by omega) (by omega) (by omega), h6 (B + cB o + i) (by omega)] at this
      exact this
    · have hm := cB_m a (show o < p by omega) (by omega)
      rw [p1 o (by omega) (by omega) e, p7 (B + cB o + i) (by omega)]
      exact h5 o i a (by omega) c
theorem inv_0 {wr : Bool} {m1 : aMem} {B : Nat} {w5 w8 : Int32} (hm : m1 = (am_wi (am_wi (am_wi (am_wi (am_wi (am_wi m.1 71 B w5) 53 34 (nI (B + 1))) 53 5 w5) 71 (B + 1) w8) 53 34 (nI (B + 1 + 1))) 53 8 w8, m.2)) (e5 : w5 = if wr = true then m.1 53 5 else m.1 71 B) (e8 : w8 = if wr = true then m.1 53 8 else m.1 71 (B + 1)) : Inv wr m m1 B 54 := by
  have e53 : m1.1 53 = upd (upd (upd (upd (m.1 53) 34 (nI (B + 1))) 5 w5) 34 (nI (B + 1 + 1))) 8 w8 := by rw [hm]; dsimp only; rw [am_wi_s, am_wi_s, am_wi_n (by decide), am_wi_s, am_wi_s, am_wi_n (by decide)]
  have e71 : m1.1 71 = upd (upd (m.1 71) B w5) (B + 1) w8 := by rw [hm]; dsimp only; rw [am_wi_n (by decide), am_wi_n (by decide), am_wi_s, am_wi_n (by decide), am_wi_n (by decide), am_wi_s]
  refine ⟨fun q a b c => ?_, by rw [hm], fun i a b c => ?_, ?_, fun o i a b => absurd b (by omega), fun q hq => ?_, ⟨?_, ?_⟩, ⟨?_, ?_⟩⟩
  · rw [hm]; dsimp only; rw [am_wi_n a, am_wi_n a, am_wi_n b, am_wi_n a, am_wi_n a, am_wi_n b]
  · rw [e53, upd_ne c, upd_ne a, upd_ne b, upd_ne a]
  · rw [e53, upd_ne (by decide), upd_at]; rfl
  · have : cB 54 = 2 := rfl
    rw [e71, upd_ne (by omega), upd_ne (by omega)]
  · rw [e53, upd_ne (by decide), upd_ne (by decide), upd_at, e5]
  · rw [e71, upd_ne (by omega), upd_at, e5]
  · rw [e53, upd_at, e8]
  · rw [e71, upd_at, e8]
theorem d_passAll {K : aMem → Prop} {wr : Bool} {B : Nat} (hB : B ≤ 70) (hw : m.1 53 35 = if wr = true then 1 else 0) (ha : m.1 53 34 = nI B) (h : ∀ m', Inv wr m m' B 61 → K m') : gCv X 174 [.ref 53] m K := by
  refine g_inV rfl ?_
  refine g_aload_n (pc' := 1) rfl rfl rfl ?_
  refine g_aload_n (pc' := 2) rfl rfl rfl ?_
  refine g_aload_n (pc' := 3) rfl rfl rfl ?_
  refine g_geti (pc' := 6) rfl rfl (i_11_5) ?_
  refine g_calli (pc' := 9) rfl rfl rfl rfl (Or.inr rfl) ?_
  refine d_pass (wr := wr) (a := B) hw ha (by omega) ?_
  generalize e5 : (if wr = true then m.1 53 5 else m.1 71 B) = w5
  refine g_puti (pc' := 12) rfl rfl (i_11_5) ?_
  refine g_aload_n (pc' := 13) rfl rfl rfl ?_
  refine g_aload_n (pc' := 14) rfl rfl rfl ?_
  refine g_aload_n (pc' := 15) rfl rfl rfl ?_
  refine g_geti (pc' := 18) rfl rfl (i_11_8) ?_
  refine g_vi (y := m.1 53 8) (by show am_wi (am_wi (am_wi m.1 71 B w5) 53 34 (nI (B + 1))) 53 5 w5 53 8 = _; rw [am_wi_s, upd_ne (by decide), am_wi_s, upd_ne (by decide), am_wi_n (by decide)]) ?_
  refine g_calli (pc' := 21) rfl rfl rfl rfl (Or.inr rfl) ?_
  refine d_pass (wr := wr) (a := B + 1) (by show am_wi (am_wi (am_wi m.1 71 B w5) 53 34 (nI (B + 1))) 53 5 w5 53 35 = _; rw [am_wi_s, upd_ne (by decide), am_wi_s, upd_ne (by decide), am_wi_n (by decide)]; exact hw) (by show am_wi (am_wi (am_wi m.1 71 B w5) 53 34 (nI (B + 1))) 53 5 w5 53 34 = _; rw [am_wi_s, upd_ne (by decide), am_wi_s, upd_at]) (by omega) ?_
  dsimp only
  rw [show am_wi (am_wi (am_wi m.1 71 B w5) 53 34 (nI (B + 1))) 53 5 w5 71 (B + 1) = m.1 71 (B + 1) by rw [am_wi_n (by decide), am_wi_n (by decide), am_wi_s, upd_ne (by omega)]]
  generalize e8 : (if wr = true then m.1 53 8 else m.1 71 (B + 1)) = w8
  refine g_puti (pc' := 24) rfl rfl (i_11_8) ?_
  refine g_mem (fun m1 hm1 => ?_)
  have i1 : Inv wr m m1 B 54 := inv_0 hm1 e5.symm e8.symm
  have w1 : m1.1 53 35 = if wr = true then 1 else 0 := (i1.2.2.1 35 (by decide) (by decide) (by decide)).trans hw
  refine g_aload_n (pc' := 25) rfl rfl rfl ?_
  refine g_aload_n (pc' := 26) rfl rfl rfl ?_
  refine g_getr (pc' := 29) rfl rfl (f_11_0) ?_
  refine g_bipush (pc' := 31) (v := 10) rfl rfl (by decide) ?_
  refine g_callv (pc' := 34) rfl rfl rfl rfl (Or.inr rfl) ?_
  refine d_passRow (n := 10) (a := B + cB 54) a_54 (by decide) (by decide) (by decide) w1 i1.2.2.2.1 (by have : cB 54 = 2 := rfl; omega) (fun m2 p2 => ?_)
  have i2 : Inv wr m m2 B 55 := i1.s (by decide) (by decide) p2
  have w2 : m2.1 53 35 = if wr = true then 1 else 0 := (i2.2.2.1 35 (by decide) (by decide) (by decide)).trans hw
  refine g_aload_n (pc' := 35) rfl rfl rfl ?_
  refine g_aload_n (pc' := 36) rfl rfl rfl ?_
  refine g_getr (pc' := 39) rfl rfl (f_11_1) ?_
  refine g_bipush (pc' := 41) (v := 10) rfl rfl (by decide) ?_
  refine g_callv (pc' := 44) rfl rfl rfl rfl (Or.inr rfl) ?_
  refine d_passRow (n := 10) (a := B + cB 55) a_55 (by decide) (by decide) (by decide) w2 i2.2.2.2.1 (by have : cB 55 = 12 := rfl; omega) (fun m3 p3 => ?_)
  have i3 : Inv wr m m3 B 56 := i2.s (by decide) (by decide) p3
  have w3 : m3.1 53 35 = if wr = true then 1 else 0 := (i3.2.2.1 35 (by decide) (by decide) (by decide)).trans hw
  refine g_aload_n (pc' := 45) rfl rfl rfl ?_
  refine g_aload_n (pc' := 46) rfl rfl rfl ?_
  refine g_getr (pc' := 49) rfl rfl (f_11_2) ?_
  refine g_bipush (pc' := 51) (v := 10) rfl rfl (by decide) ?_
  refine g_callv (pc' := 54) rfl rfl rfl rfl (Or.inr rfl) ?_
  refine d_passRow (n := 10) (a := B + cB 56) a_56 (by decide) (by decide) (by decide) w3 i3.2.2.2.1 (by have : cB 56 = 22 := rfl; omega) (fun m4 p4 => ?_)
  have i4 : Inv wr m m4 B 57 := i3.s (by decide) (by decide) p4
  have w4 : m4.1 53 35 = if wr = true then 1 else 0 := (i4.2.2.1 35 (by decide) (by decide) (by decide)).trans hw
  refine g_aload_n (pc' := 55) rfl rfl rfl ?_
  refine g_aload_n (pc' := 56) rfl rfl rfl ?_
  refine g_getr (pc' := 59) rfl rfl (f_11_3) ?_
  refine g_bipush (pc' := 61) (v := 10) rfl rfl (by decide) ?_
  refine g_callv (pc' := 64) rfl rfl rfl rfl (Or.inr rfl) ?_
  refine d_passRow (n := 10) (a := B + cB 57) a_57 (by decide) (by decide) (by decide) w4 i4.2.2.2.1 (by have : cB 57 = 32 := rfl; omega) (fun m5 p5 => ?_)
  have i5 : Inv wr m m5 B 58 := i4.s (by decide) (by decide) p5
  have w5 : m5.1 53 35 = if wr = true then 1 else 0 := (i5.2.2.1 35 (by decide) (by decide) (by decide)).trans hw
  refine g_aload_n (pc' := 65) rfl rfl rfl ?_
  refine g_aload_n (pc' := 66) rfl rfl rfl ?_
  refine g_getr (pc' := 69) rfl rfl (f_11_4) ?_
  refine g_bipush (pc' := 71) (v := 10) rfl rfl (by decide) ?_
  refine g_callv (pc' := 74) rfl rfl rfl rfl (Or.inr rfl) ?_
  refine d_passRow (n := 10) (a := B + cB 58) a_58 (by decide) (by decide) (by decide) w5 i5.2.2.2.1 (by have : cB 58 = 42 := rfl; omega) (fun m6 p6 => ?_)
  have i6 : Inv wr m m6 B 59 := i5.s (by decide) (by decide) p6
  have w6 : m6.1 53 35 = if wr = true then 1 else 0 := (i6.2.2.1 35 (by decide) (by decide) (by decide)).trans hw
  refine g_aload_n (pc' := 75) rfl rfl rfl ?_
  refine g_aload_n (pc' := 76) rfl rfl rfl ?_
  refine g_getr (pc' := 79) rfl rfl (f_11_6) ?_
  refine g_bipush (pc' := 81) (v := 8) rfl rfl (by decide) ?_
  refine g_callv (pc' := 84) rfl rfl rfl rfl (Or.inr rfl) ?_
  refine d_passRow (n := 8) (a := B + cB 59) a_59 (by decide) (by decide) (by decide) w6 i6.2.2.2.1 (by have : cB 59 = 52 := rfl; omega) (fun m7 p7 => ?_)
  have i7 : Inv wr m m7 B 60 := i6.s (by decide) (by decide) p7
  have w7 : m7.1 53 35 = if wr = true then 1 else 0 := (i7.2.2.1 35 (by decide) (by decide) (by decide)).trans hw
  refine g_aload_n (pc' := 85) rfl rfl rfl ?_
  refine g_aload_n (pc' := 86) rfl rfl rfl ?_
  refine g_getr (pc' := 89) rfl rfl (f_11_7) ?_
  refine g_bipush (pc' := 91) (v := 8) rfl rfl (by decide) ?_
  refine g_callv (pc' := 94) rfl rfl rfl rfl (Or.inr rfl) ?_
  refine d_passRow (n := 8) (a := B + cB 60) a_60 (by decide) (by decide) (by decide) w7 i7.2.2.2.1 (by have : cB 60 = 60 := rfl; omega) (fun m8 p8 => ?_)
  have i8 : Inv wr m m8 B 61 := i7.s (by decide) (by decide) p8
  have w8 : m8.1 53 35 = if wr = true then 1 else 0 := (i8.2.2.1 35 (by decide) (by decide) (by decide)).trans hw
  exact g_return rfl rfl (h m8 i8)
theorem inv_st {wr : Bool} {m' : aMem} {k : Nat} (h : Inv wr m m' (70 * k) 61) : stAt m' 53 = (if wr = true then stAt m 53 else stK m k) ∧ stK m' k = (if wr = true then stAt m 53 else stK m k) ∧ sgM m' = (if wr = true then sgM m else sgK m k) ∧ sgK m' k = (if wr = true then sgM m else sgK m k) := by
  obtain ⟨h1, h2, h3, h4, h5, h6, h7, h8⟩ := h
  have r : ∀ o L c, 54 ≤ o → o < 61 → lB o = L → cB o = c → cut L (m'.1 o) = (if wr = true then cut L (m.1 o) else cut L (fun i => m.1 71 (70 * k + c + i))) ∧ cut L (fun i => m'.1 71 (70 * k + c + i)) = (if wr = true then cut L (m.1 o) else cut L (fun i => m.1 71 (70 * k + c + i))) := by
    intro o L c a b eL ec
    cases wr with
    | true => exact ⟨cut_ext (fun i hi => (h5 o i a b (by omega)).1), cut_ext (fun i hi => by have := (h5 o i a b (by omega)).2; rw [ec] at this; exact this)⟩
    | false => exact ⟨cut_ext (fun i hi => by have := (h5 o i a b (by omega)).1; unfold Wv at this; rw [ec] at this; exact this), cut_ext (fun i hi => by have := (h5 o i a b (by omega)).2; unfold Wv at this; rw [ec] at this; exact this)⟩
  have r1 := r 54 10 2 (by decide) (by decide) rfl rfl
  have r2 := r 55 10 12 (by decide) (by decide) rfl rfl
  have r3 := r 56 10 22 (by decide) (by decide) rfl rfl
  have r4 := r 57 10 32 (by decide) (by decide) rfl rfl
  have r5 := r 58 10 42 (by decide) (by decide) rfl rfl
  have r6 := r 59 8 52 (by decide) (by decide) rfl rfl
  have r7 := r 60 8 60 (by decide) (by decide) rfl rfl
  unfold stAt stK sgM sgK
  simp only [show (53 : Nat) + 1 = 54 from rfl, show (53 : Nat) + 2 = 55 from rfl, show (53 : Nat) + 3 = 56 from rfl, show (53 : Nat) + 4 = 57 from rfl, show (53 : Nat) + 5 = 58 from rfl]
  rw [r1.1, r2.1, r3.1, r4.1, r5.1, r6.1, r7.1, r1.2, r2.2, r3.2, r4.2, r5.2, r6.2, r7.2, h7.1, h7.2, h8.1, h8.2]
  cases wr with
  | true => exact ⟨rfl, rfl, rfl, rfl⟩
  | false => exact ⟨rfl, rfl, rfl, rfl⟩
theorem inv_o {wr : Bool} {m' : aMem} {k j : Nat} (h : Inv wr m m' (70 * k) 61) (hj : j ≠ k) : stK m' j = stK m j ∧ sgK m' j = sgK m j := by
  obtain ⟨h1, h2, h3, h4, h5, h6, h7, h8⟩ := h
  have hc : cB 61 = 68 := rfl
  have e : ∀ q, q < 68 → m'.1 71 (70 * j + q) = m.1 71 (70 * j + q) := fun q hq => h6 _ (by rw [hc]; omega)
  have ec : ∀ L c, L + c ≤ 68 → cut L (fun i => m'.1 71 (70 * j + c + i)) = cut L (fun i => m.1 71 (70 * j + c + i)) := fun L c hL => cut_ext (fun i hi => by rw [Nat.add_assoc]; exact e _ (by omega))
  unfold stK sgK
  rw [ec 10 2 (by decide), ec 10 12 (by decide), ec 10 22 (by decide), ec 10 32 (by decide), ec 10 42 (by decide), ec 8 52 (by decide), ec 8 60 (by decide), e 1 (by decide)]
  have := e 0 (by decide)
  rw [Nat.add_zero] at this
  rw [this]
  exact ⟨rfl, rfl⟩
theorem inv_fr {wr : Bool} {m' : aMem} {B : Nat} (h : Inv wr m m' B 61) : Fr 53 73 m m' := ⟨fun q hq => h.1 q (by omega) (by omega) (by omega), fun q _ => congrFun h.2.1 q⟩
/-- the flag and the place are the pass's own -/
theorem mi_x {i : Nat} {v : Int32} (hM : MI m A) (hi : i = 34 ∨ i = 35) : MI (am_wi m.1 53 i v, m.2) A := by
  have e : ∀ j, j < 34 → am_wi m.1 53 i v 53 j = m.1 53 j := fun j hj => by rw [am_wi_s, upd_ne (by omega)]
  have := mi_sg (m' := (am_wi m.1 53 i v, m.2)) (T' := aT A) hM
  obtain ⟨h1, h2, h3, h4, h5, h6⟩ := hM
  have im : ∀ k x, imM m k x → imM (am_wi m.1 53 i v, m.2) k x := fun k x hx => by
    have e72 : am_wi m.1 53 i v 72 = m.1 72 := by rw [am_wi_n (by decide)]
    have e71 : am_wi m.1 53 i v 71 = m.1 71 := by rw [am_wi_n (by decide)]
    cases x with
    | none => exact (congrFun e72 k).trans hx
    | some q =>
      refine ⟨(congrFun e72 k).trans hx.1, ?_, ?_⟩
      · rw [← hx.2.1]; unfold stK; dsimp only; rw [e71]
      · rw [← hx.2.2]; unfold sgK; dsimp only; rw [e71]
  refine ⟨(w_x (Or.inr ⟨rfl, by omega⟩)).trans h1, (e 10 (by decide)).trans h2, ?_, ?_, im 0 _ h5, im 1 _ h6⟩
  · show sg (aN A) (am_wi m.1 53 i v 61) = aG A
    rw [am_wi_n (by decide)]; exact h3
  · rw [← h4]; unfold sgM; dsimp only
    rw [e 8 (by decide), am_wi_n (by decide), am_wi_n (by decide)]
theorem d_image0 (hM : MI m A) (h : ∀ m', Fr 53 73 m m' → MI m' (r_image A 0).2 → K (r_image A 0).1 m') : gCi X 175 [.ref 53, .int 0] m K := by
  refine g_inI rfl ?_
  refine g_iload_n (pc' := 1) rfl rfl rfl ?_
  refine g_i2l (pc' := 2) rfl rfl ?_
  refine g_lconst (pc' := 3) (v := 0) rfl rfl (by decide) ?_
  refine g_lconst (pc' := 4) (v := 1) rfl rfl (by decide) ?_
  refine g_calli (pc' := 7) rfl rfl rfl rfl (Or.inl rfl) ?_
  refine d_in (lo := 0) (hi := 1) (by decide) (by decide) (fun u1 u2 => ?_) (fun u0 => ?_)
  · refine g_if_ne (pc' := 10) (t := 13) rfl rfl rfl (fun _ => ?_) (fun c => absurd c (by decide))
    refine g_aload_n (pc' := 14) rfl rfl rfl ?_
    refine g_bipush (pc' := 16) (v := 70) rfl rfl (by decide) ?_
    refine g_iload_n (pc' := 17) rfl rfl rfl ?_
    refine g_imul (pc' := 18) rfl rfl ?_
    refine g_vi (y := nI (70 * 0)) (by decide) ?_
    refine g_puti (pc' := 21) rfl rfl (i_11_34) ?_
    refine g_aload_n (pc' := 22) rfl rfl rfl ?_
    refine g_iconst (pc' := 23) (v := 1) rfl rfl (by decide) ?_
    have hM1 : MI ((am_wi (am_wi m.1 53 34 (nI (70 * 0))) 53 35 1, m.2)) A := mi_x (m := (am_wi m.1 53 34 (nI (70 * 0)), m.2)) (mi_x hM (Or.inl rfl)) (Or.inr rfl)
    refine g_putb (pc' := 26) rfl rfl (i_11_35) (by decide) ?_
    refine g_aload_n (pc' := 27) rfl rfl rfl ?_
    refine g_callv (pc' := 30) rfl rfl rfl rfl (Or.inr rfl) ?_
    refine d_passAll (wr := true) (B := 70 * 0) (by decide) (by show am_wi (am_wi m.1 53 34 (nI (70 * 0))) 53 35 1 53 35 = 1; rw [am_wi_s, upd_at]) (by show am_wi (am_wi m.1 53 34 (nI (70 * 0))) 53 35 1 53 34 = _; rw [am_wi_s, upd_ne (by decide), am_wi_s, upd_at]) (fun m3 i3 => ?_)
    obtain ⟨sA, sK, gA, gK⟩ := inv_st i3
    have f3 := inv_fr i3
    refine g_aload_n (pc' := 31) rfl rfl rfl ?_
    refine g_getr (pc' := 34) rfl rfl (f_11_33) ?_
    refine g_iload_n (pc' := 35) rfl rfl rfl ?_
    refine g_iconst (pc' := 36) (v := 1) rfl rfl (by decide) ?_
    refine g_bast (pc' := 37) rfl rfl (a_72) (k := 0) (by decide) rfl (by decide) ?_
    refine g_iconst (pc' := 38) (v := 1) rfl rfl (by decide) ?_
    exact g_ireturn rfl rfl (mf (A' := (A.1, A.2.1, A.2.2.1, some (aS A, aT A), A.2.2.2.2)) h (by unfold r_image; rw [if_neg (nn ⟨by decide, by decide⟩)]; rfl) (((Fr.rf.s (by omega) (by omega)).s (by omega) (by omega)).tr f3 |>.s (by omega) (by omega)) ⟨(w_x (Or.inl (by decide))).trans (sA.trans hM1.1), by
            show am_wi m3.1 72 0 1 53 10 = _
            rw [am_wi_n (by decide), i3.2.2.1 10 (by decide) (by decide) (by decide)]
            exact hM1.2.1, by
            show sg (aN A) (am_wi m3.1 72 0 1 61) = aG A
            rw [am_wi_n (by decide), i3.1 61 (by decide) (by decide) (by decide)]
            exact hM1.2.2.1, by
            show (am_wi m3.1 72 0 1 53 8, cut 8 (am_wi m3.1 72 0 1 59), cut 8 (am_wi m3.1 72 0 1 60)) = aT A
            rw [am_wi_n (by decide), am_wi_n (by decide), am_wi_n (by decide)]
            exact gA.trans hM1.2.2.2.1, ⟨by show am_wi m3.1 72 0 1 72 0 = 1; rw [am_wi_s, upd_at], sK.trans hM1.1, gK.trans hM1.2.2.2.1⟩, by
            have e72 : am_wi m3.1 72 0 1 72 1 = m.1 72 1 := by rw [am_wi_s, upd_ne (by decide), i3.1 72 (by decide) (by decide) (by decide), show ((am_wi (am_wi m.1 53 34 (nI (70 * 0))) 53 35 1, m.2)).1 72 = m.1 72 by dsimp only; rw [am_wi_n (by decide), am_wi_n (by decide)]]
            have o1 := hM1.2.2.2.2.2
            obtain ⟨s1, s2⟩ := inv_o (j := 1) i3 (by decide)
            have eX : ∀ x, imM ((am_wi (am_wi m.1 53 34 (nI (70 * 0))) 53 35 1, m.2)) 1 x → imM (am_wi m3.1 72 0 1, m3.2) 1 x := fun x hx => by
              have e0 : ((am_wi (am_wi m.1 53 34 (nI (70 * 0))) 53 35 1, m.2)).1 72 1 = m.1 72 1 := by dsimp only; rw [am_wi_n (by decide), am_wi_n (by decide)]
              cases x with
              | none => exact (e72.trans e0.symm).trans hx
              | some q => exact ⟨(e72.trans e0.symm).trans hx.1, s1.trans hx.2.1, s2.trans hx.2.2⟩
            exact eX _ o1⟩)
  · exact absurd ⟨by decide, by decide⟩ u0
theorem d_restore0 (hM : MI m A) (h : ∀ m', Fr 53 73 m m' → MI m' (r_restore A 0).2 → K (r_restore A 0).1 m') : gCi X 176 [.ref 53, .int 0] m K := by
  refine g_inI rfl ?_
  have him := hM.2.2.2.2.1
  refine g_iload_n (pc' := 1) rfl rfl rfl ?_
  refine g_i2l (pc' := 2) rfl rfl ?_
  refine g_lconst (pc' := 3) (v := 0) rfl rfl (by decide) ?_
  refine g_lconst (pc' := 4) (v := 1) rfl rfl (by decide) ?_
  refine g_calli (pc' := 7) rfl rfl rfl rfl (Or.inl rfl) ?_
  refine d_in (lo := 0) (hi := 1) (by decide) (by decide) (fun u1 u2 => ?_) (fun u0 => ?_)
  · refine g_if_ne (pc' := 10) (t := 13) rfl rfl rfl (fun _ => ?_) (fun c => absurd c (by decide))
    refine g_aload_n (pc' := 14) rfl rfl rfl ?_
    refine g_getr (pc' := 17) rfl rfl (f_11_33) ?_
    refine g_iload_n (pc' := 18) rfl rfl rfl ?_
    refine g_bald (pc' := 19) rfl rfl (a_72) (k := 0) (by decide) rfl ?_
    refine g_if_ne (pc' := 22) (t := 25) rfl rfl rfl (fun c_19 => ?_) (fun c_19 => ?_)
    · cases hq : aI0 A with
      | none => rw [hq] at him; exact absurd him c_19
      | some q =>
      rw [hq] at him
      have er : r_restore A 0 = (1, (q.1, A.2.1, q.2, A.2.2.2)) := by
        unfold r_restore
        rw [if_neg (nn ⟨by decide, by decide⟩), show (if (0 : Int32) = 0 then aI0 A else aI1 A) = aI0 A from rfl, hq]
      refine g_aload_n (pc' := 26) rfl rfl rfl ?_
      refine g_bipush (pc' := 28) (v := 70) rfl rfl (by decide) ?_
      refine g_iload_n (pc' := 29) rfl rfl rfl ?_
      refine g_imul (pc' := 30) rfl rfl ?_
      refine g_vi (y := nI (70 * 0)) (by decide) ?_
      refine g_puti (pc' := 33) rfl rfl (i_11_34) ?_
      refine g_aload_n (pc' := 34) rfl rfl rfl ?_
      refine g_iconst (pc' := 35) (v := 0) rfl rfl (by decide) ?_
      have hM1 : MI ((am_wi (am_wi m.1 53 34 (nI (70 * 0))) 53 35 0, m.2)) A := mi_x (m := (am_wi m.1 53 34 (nI (70 * 0)), m.2)) (mi_x hM (Or.inl rfl)) (Or.inr rfl)
      have him1 := hM1.2.2.2.2.1
      rw [hq] at him1
      refine g_putb (pc' := 38) rfl rfl (i_11_35) (by decide) ?_
      refine g_aload_n (pc' := 39) rfl rfl rfl ?_
      refine g_callv (pc' := 42) rfl rfl rfl rfl (Or.inr rfl) ?_
      refine d_passAll (wr := false) (B := 70 * 0) (by decide) (by show am_wi (am_wi m.1 53 34 (nI (70 * 0))) 53 35 0 53 35 = 0; rw [am_wi_s, upd_at]) (by show am_wi (am_wi m.1 53 34 (nI (70 * 0))) 53 35 0 53 34 = _; rw [am_wi_s, upd_ne (by decide), am_wi_s, upd_at]) (fun m3 i3 => ?_)
      obtain ⟨sA, sK, gA, gK⟩ := inv_st i3
      have f3 := inv_fr i3
      have imR : ∀ j x, imM ((am_wi (am_wi m.1 53 34 (nI (70 * 0))) 53 35 0, m.2)) j x → imM m3 j x := fun j x hx => by
        have e72 := i3.1 72 (by decide) (by decide) (by decide)
        have es : stK m3 j = stK ((am_wi (am_wi m.1 53 34 (nI (70 * 0))) 53 35 0, m.2)) j ∧ sgK m3 j = sgK ((am_wi (am_wi m.1 53 34 (nI (70 * 0))) 53 35 0, m.2)) j := by
          by_cases e : j = 0
          · subst e; exact ⟨sK, gK⟩
          · exact inv_o i3 e
        cases x with
        | none => exact (congrFun e72 j).trans hx
        | some q => exact ⟨(congrFun e72 j).trans hx.1, es.1.trans hx.2.1, es.2.trans hx.2.2⟩
      refine g_iconst (pc' := 43) (v := 1) rfl rfl (by decide) ?_
      exact g_ireturn rfl rfl (mf (A' := (q.1, A.2.1, q.2, A.2.2.2)) h er (((Fr.rf.s (by omega) (by omega)).s (by omega) (by omega)).tr f3) ⟨sA.trans him1.2.1, (i3.2.2.1 10 (by decide) (by decide) (by decide)).trans hM1.2.1, by
              show sg (aN A) (m3.1 61) = aG A
              rw [i3.1 61 (by decide) (by decide) (by decide)]
              exact hM1.2.2.1, gA.trans him1.2.2, imR 0 _ hM1.2.2.2.2.1, imR 1 _ hM1.2.2.2.2.2⟩)
    · refine g_bipush (pc' := 24) (v := -3) rfl rfl (by decide) ?_
      exact g_ireturn rfl rfl (mf h (by
              unfold r_restore
              rw [if_neg (nn ⟨by decide, by decide⟩)]
              cases hq : aI0 A with
              | none => rfl
              | some q => rw [hq] at him; have := him.1; rw [this] at c_19; exact absurd c_19 (by decide)) Fr.rf hM)
  · exact absurd ⟨by decide, by decide⟩ u0
theorem d_image1 (hM : MI m A) (h : ∀ m', Fr 53 73 m m' → MI m' (r_image A 1).2 → K (r_image A 1).1 m') : gCi X 175 [.ref 53, .int 1] m K := by
  refine g_inI rfl ?_
  refine g_iload_n (pc' := 1) rfl rfl rfl ?_
  refine g_i2l (pc' := 2) rfl rfl ?_
  refine g_lconst (pc' := 3) (v := 0) rfl rfl (by decide) ?_
  refine g_lconst (pc' := 4) (v := 1) rfl rfl (by decide) ?_
  refine g_calli (pc' := 7) rfl rfl rfl rfl (Or.inl rfl) ?_
  refine d_in (lo := 0) (hi := 1) (by decide) (by decide) (fun u1 u2 => ?_) (fun u0 => ?_)
  · refine g_if_ne (pc' := 10) (t := 13) rfl rfl rfl (fun _ => ?_) (fun c => absurd c (by decide))
    refine g_aload_n (pc' := 14) rfl rfl rfl ?_
    refine g_bipush (pc' := 16) (v := 70) rfl rfl (by decide) ?_
    refine g_iload_n (pc' := 17) rfl rfl rfl ?_
    refine g_imul (pc' := 18) rfl rfl ?_
    refine g_vi (y := nI (70 * 1)) (by decide) ?_
    refine g_puti (pc' := 21) rfl rfl (i_11_34) ?_
    refine g_aload_n (pc' := 22) rfl rfl rfl ?_
    refine g_iconst (pc' := 23) (v := 1) rfl rfl (by decide) ?_
    have hM1 : MI ((am_wi (am_wi m.1 53 34 (nI (70 * 1))) 53 35 1, m.2)) A := mi_x (m := (am_wi m.1 53 34 (nI (70 * 1)), m.2)) (mi_x hM (Or.inl rfl)) (Or.inr rfl)
    refine g_putb (pc' := 26) rfl rfl (i_11_35) (by decide) ?_
    refine g_aload_n (pc' := 27) rfl rfl rfl ?_
    refine g_callv (pc' := 30) rfl rfl rfl rfl (Or.inr rfl) ?_
    refine d_passAll (wr := true) (B := 70 * 1) (by decide) (by show am_wi (am_wi m.1 53 34 (nI (70 * 1))) 53 35 1 53 35 = 1; rw [am_wi_s, upd_at]) (by show am_wi (am_wi m.1 53 34 (nI (70 * 1))) 53 35 1 53 34 = _; rw [am_wi_s, upd_ne (by decide), am_wi_s, upd_at]) (fun m3 i3 => ?_)
    obtain ⟨sA, sK, gA, gK⟩ := inv_st i3
    have f3 := inv_fr i3
    refine g_aload_n (pc' := 31) rfl rfl rfl ?_
    refine g_getr (pc' := 34) rfl rfl (f_11_33) ?_
    refine g_iload_n (pc' := 35) rfl rfl rfl ?_
    refine g_iconst (pc' := 36) (v := 1) rfl rfl (by decide) ?_
    refine g_bast (pc' := 37) rfl rfl (a_72) (k := 1) (by decide) rfl (by decide) ?_
    refine g_iconst (pc' := 38) (v := 1) rfl rfl (by decide) ?_
    exact g_ireturn rfl rfl (mf (A' := (A.1, A.2.1, A.2.2.1, A.2.2.2.1, some (aS A, aT A))) h (by unfold r_image; rw [if_neg (nn ⟨by decide, by decide⟩)]; rfl) (((Fr.rf.s (by omega) (by omega)).s (by omega) (by omega)).tr f3 |>.s (by omega) (by omega)) ⟨(w_x (Or.inl (by decide))).trans (sA.trans hM1.1), by
            show am_wi m3.1 72 1 1 53 10 = _
            rw [am_wi_n (by decide), i3.2.2.1 10 (by decide) (by decide) (by decide)]
            exact hM1.2.1, by
            show sg (aN A) (am_wi m3.1 72 1 1 61) = aG A
            rw [am_wi_n (by decide), i3.1 61 (by decide) (by decide) (by decide)]
            exact hM1.2.2.1, by
            show (am_wi m3.1 72 1 1 53 8, cut 8 (am_wi m3.1 72 1 1 59), cut 8 (am_wi m3.1 72 1 1 60)) = aT A
            rw [am_wi_n (by decide), am_wi_n (by decide), am_wi_n (by decide)]
            exact gA.trans hM1.2.2.2.1, by
            have e72 : am_wi m3.1 72 1 1 72 0 = m.1 72 0 := by rw [am_wi_s, upd_ne (by decide), i3.1 72 (by decide) (by decide) (by decide), show ((am_wi (am_wi m.1 53 34 (nI (70 * 1))) 53 35 1, m.2)).1 72 = m.1 72 by dsimp only; rw [am_wi_n (by decide), am_wi_n (by decide)]]
            have o1 := hM1.2.2.2.2.1
            obtain ⟨s1, s2⟩ := inv_o (j := 0) i3 (by decide)
            have eX : ∀ x, imM ((am_wi (am_wi m.1 53 34 (nI (70 * 1))) 53 35 1, m.2)) 0 x → imM (am_wi m3.1 72 1 1, m3.2) 0 x := fun x hx => by
              have e0 : ((am_wi (am_wi m.1 53 34 (nI (70 * 1))) 53 35 1, m.2)).1 72 0 = m.1 72 0 := by dsimp only; rw [am_wi_n (by decide), am_wi_n (by decide)]
              cases x with
              | none => exact (e72.trans e0.symm).trans hx
              | some q => exact ⟨(e72.trans e0.symm).trans hx.1, s1.trans hx.2.1, s2.trans hx.2.2⟩
            exact eX _ o1, ⟨by show am_wi m3.1 72 1 1 72 1 = 1; rw [am_wi_s, upd_at], sK.trans hM1.1, gK.trans hM1.2.2.2.1⟩⟩)
  · exact absurd ⟨by decide, by decide⟩ u0
theorem d_restore1 (hM : MI m A) (h : ∀ m', Fr 53 73 m m' → MI m' (r_restore A 1).2 → K (r_restore A 1).1 m') : gCi X 176 [.ref 53, .int 1] m K := by
  refine g_inI rfl ?_
  have him := hM.2.2.2.2.2
  refine g_iload_n (pc' := 1) rfl rfl rfl ?_
  refine g_i2l (pc' := 2) rfl rfl ?_
  refine g_lconst (pc' := 3) (v := 0) rfl rfl (by decide) ?_
  refine g_lconst (pc' := 4) (v := 1) rfl rfl (by decide) ?_
  refine g_calli (pc' := 7) rfl rfl rfl rfl (Or.inl rfl) ?_
  refine d_in (lo := 0) (hi := 1) (by decide) (by decide) (fun u1 u2 => ?_) (fun u0 => ?_)
  · refine g_if_ne (pc' := 10) (t := 13) rfl rfl rfl (fun _ => ?_) (fun c => absurd c (by decide))
    refine g_aload_n (pc' := 14) rfl rfl rfl ?_
    refine g_getr (pc' := 17) rfl rfl (f_11_33) ?_
    refine g_iload_n (pc' := 18) rfl rfl rfl ?_
    refine g_bald (pc' := 19) rfl rfl (a_72) (k := 1) (by decide) rfl ?_
    refine g_if_ne (pc' := 22) (t := 25) rfl rfl rfl (fun c_19 => ?_) (fun c_19 => ?_)
    · cases hq : aI1 A with
      | none => rw [hq] at him; exact absurd him c_19
      | some q =>
      rw [hq] at him
      have er : r_restore A 1 = (1, (q.1, A.2.1, q.2, A.2.2.2)) := by
        unfold r_restore
        rw [if_neg (nn ⟨by decide, by decide⟩), show (if (1 : Int32) = 0 then aI0 A else aI1 A) = aI1 A from rfl, hq]
      refine g_aload_n (pc' := 26) rfl rfl rfl ?_
      refine g_bipush (pc' := 28) (v := 70) rfl rfl (by decide) ?_
      refine g_iload_n (pc' := 29) rfl rfl rfl ?_
      refine g_imul (pc' := 30) rfl rfl ?_
      refine g_vi (y := nI (70 * 1)) (by decide) ?_
      refine g_puti (pc' := 33) rfl rfl (i_11_34) ?_
      refine g_aload_n (pc' := 34) rfl rfl rfl ?_
      refine g_iconst (pc' := 35) (v := 0) rfl rfl (by decide) ?_
      have hM1 : MI ((am_wi (am_wi m.1 53 34 (nI (70 * 1))) 53 35 0, m.2)) A := mi_x (m := (am_wi m.1 53 34 (nI (70 * 1)), m.2)) (mi_x hM (Or.inl rfl)) (Or.inr rfl)
      have him1 := hM1.2.2.2.2.2
      rw [hq] at him1
      refine g_putb (pc' := 38) rfl rfl (i_11_35) (by decide) ?_
      refine g_aload_n (pc' := 39) rfl rfl rfl ?_
      refine g_callv (pc' := 42) rfl rfl rfl rfl (Or.inr rfl) ?_
      refine d_passAll (wr := false) (B := 70 * 1) (by decide) (by show am_wi (am_wi m.1 53 34 (nI (70 * 1))) 53 35 0 53 35 = 0; rw [am_wi_s, upd_at]) (by show am_wi (am_wi m.1 53 34 (nI (70 * 1))) 53 35 0 53 34 = _; rw [am_wi_s, upd_ne (by decide), am_wi_s, upd_at]) (fun m3 i3 => ?_)
      obtain ⟨sA, sK, gA, gK⟩ := inv_st i3
      have f3 := inv_fr i3
      have imR : ∀ j x, imM ((am_wi (am_wi m.1 53 34 (nI (70 * 1))) 53 35 0, m.2)) j x → imM m3 j x := fun j x hx => by
        have e72 := i3.1 72 (by decide) (by decide) (by decide)
        have es : stK m3 j = stK ((am_wi (am_wi m.1 53 34 (nI (70 * 1))) 53 35 0, m.2)) j ∧ sgK m3 j = sgK ((am_wi (am_wi m.1 53 34 (nI (70 * 1))) 53 35 0, m.2)) j := by
          by_cases e : j = 1
          · subst e; exact ⟨sK, gK⟩
          · exact inv_o i3 e
        cases x with
        | none => exact (congrFun e72 j).trans hx
        | some q => exact ⟨(congrFun e72 j).trans hx.1, es.1.trans hx.2.1, es.2.trans hx.2.2⟩
      refine g_iconst (pc' := 43) (v := 1) rfl rfl (by decide) ?_
      exact g_ireturn rfl rfl (mf (A' := (q.1, A.2.1, q.2, A.2.2.2)) h er (((Fr.rf.s (by omega) (by omega)).s (by omega) (by omega)).tr f3) ⟨sA.trans him1.2.1, (i3.2.2.1 10 (by decide) (by decide) (by decide)).trans hM1.2.1, by
              show sg (aN A) (m3.1 61) = aG A
              rw [i3.1 61 (by decide) (by decide) (by decide)]
              exact hM1.2.2.1, gA.trans him1.2.2, imR 0 _ hM1.2.2.2.2.1, imR 1 _ hM1.2.2.2.2.2⟩)
    · refine g_bipush (pc' := 24) (v := -3) rfl rfl (by decide) ?_
      exact g_ireturn rfl rfl (mf h (by
              unfold r_restore
              rw [if_neg (nn ⟨by decide, by decide⟩)]
              cases hq : aI1 A with
              | none => rfl
              | some q => rw [hq] at him; have := him.1; rw [this] at c_19; exact absurd c_19 (by decide)) Fr.rf hM)
  · exact absurd ⟨by decide, by decide⟩ u0
theorem d_image {k : Int32} (hM : MI m A) (h : ∀ m', Fr 53 73 m m' → MI m' (r_image A k).2 → K (r_image A k).1 m') : gCi X 175 [.ref 53, .int k] m K := by
  by_cases hk : 0 ≤ k ∧ k ≤ 1
  · obtain ⟨j, hj, e⟩ := i_in (n := 1) (by decide) hk.1 hk.2
    rcases (show j = 0 ∨ j = 1 by omega) with rfl | rfl
    · subst e; exact d_image0 hM h
    · subst e; exact d_image1 hM h
  · refine g_inI rfl ?_
    refine g_iload_n (pc' := 1) rfl rfl rfl ?_
    refine g_i2l (pc' := 2) rfl rfl ?_
    refine g_lconst (pc' := 3) (v := 0) rfl rfl (by decide) ?_
    refine g_lconst (pc' := 4) (v := 1) rfl rfl (by decide) ?_
    refine g_calli (pc' := 7) rfl rfl rfl rfl (Or.inl rfl) ?_
    refine d_in (lo := 0) (hi := 1) (by decide) (by decide) (fun u1 u2 => ?_) (fun u0 => ?_)
    · exact absurd ⟨u1, u2⟩ hk
    · refine g_if_ne (pc' := 10) (t := 13) rfl rfl rfl (fun c => absurd c (by decide)) (fun _ => ?_)
      refine g_bipush (pc' := 12) (v := -2) rfl rfl (by decide) ?_
      exact g_ireturn rfl rfl (mf h (by unfold r_image; rw [if_pos hk]) Fr.rf hM)
theorem d_restore {k : Int32} (hM : MI m A) (h : ∀ m', Fr 53 73 m m' → MI m' (r_restore A k).2 → K (r_restore A k).1 m') : gCi X 176 [.ref 53, .int k] m K := by
  by_cases hk : 0 ≤ k ∧ k ≤ 1
  · obtain ⟨j, hj, e⟩ := i_in (n := 1) (by decide) hk.1 hk.2
    rcases (show j = 0 ∨ j = 1 by omega) with rfl | rfl
    · subst e; exact d_restore0 hM h
    · subst e; exact d_restore1 hM h
  · refine g_inI rfl ?_
    refine g_iload_n (pc' := 1) rfl rfl rfl ?_
    refine g_i2l (pc' := 2) rfl rfl ?_
    refine g_lconst (pc' := 3) (v := 0) rfl rfl (by decide) ?_
    refine g_lconst (pc' := 4) (v := 1) rfl rfl (by decide) ?_
    refine g_calli (pc' := 7) rfl rfl rfl rfl (Or.inl rfl) ?_
    refine d_in (lo := 0) (hi := 1) (by decide) (by decide) (fun u1 u2 => ?_) (fun u0 => ?_)
    · exact absurd ⟨u1, u2⟩ hk
    · refine g_if_ne (pc' := 10) (t := 13) rfl rfl rfl (fun c => absurd c (by decide)) (fun _ => ?_)
      refine g_bipush (pc' := 12) (v := -2) rfl rfl (by decide) ?_
      exact g_ireturn rfl rfl (mf h (by unfold r_restore; rw [if_pos hk]) Fr.rf hM)
end M8
