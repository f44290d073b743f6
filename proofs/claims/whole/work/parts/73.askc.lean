/-! ASK: what to ask about next, and the class -/
def tqS (T : aSg) (x y i a : Nat) : Nat := if fitO T i ∧ plO i x < plO i y then a + 1 else a
def tq (T : aSg) (x y i : Nat) : Nat := fN (tqS T x y) i 0
theorem tq_p {T : aSg} {x y i : Nat} (h : fitO T i) (h2 : plO i x < plO i y) : tq T x y (i + 1) = tq T x y i + 1 := by
  show tqS T x y i (tq T x y i) = _
  unfold tqS
  rw [if_pos ⟨h, h2⟩]
theorem tq_q {T : aSg} {x y i : Nat} (h2 : ¬ plO i x < plO i y) : tq T x y (i + 1) = tq T x y i := by
  show tqS T x y i (tq T x y i) = _
  unfold tqS
  rw [if_neg (fun z => h2 z.2)]
theorem tq_n {T : aSg} {x y i : Nat} (h : ¬ fitO T i) : tq T x y (i + 1) = tq T x y i := by
  show tqS T x y i (tq T x y i) = _
  unfold tqS
  rw [if_neg (fun z => h z.1)]
theorem tq_sum {T : aSg} {x y : Nat} (hx : x < 5) (hy : y < 5) (hn : x ≠ y) : ∀ i, i ≤ 120 → tq T x y i + tq T y x i = coN T i
  | 0, _ => rfl
  | i + 1, hi => by
    have ih := tq_sum (T := T) hx hy hn i (by omega)
    by_cases h : fitO T i
    · rw [co_p h]
      by_cases z : plO i x < plO i y
      · rw [tq_p h z, tq_q (show ¬ plO i y < plO i x by omega)]; omega
      · have z2 : plO i y < plO i x := by
          have : plO i x ≠ plO i y := fun e => hn (o_3 (by omega) hx hy e)
          omega
        rw [tq_q z, tq_p h z2]; omega
    · rw [co_q h, tq_n h, tq_n h]; exact ih
theorem tq_le {T : aSg} {x y : Nat} : ∀ i, tq T x y i ≤ i
  | 0 => Nat.le_refl _
  | i + 1 => by
    have := tq_le (T := T) (x := x) (y := y) i
    show tqS T x y i (tq T x y i) ≤ i + 1
    unfold tqS
    split <;> omega
def mlN (T : aSg) (x y : Nat) : Nat := if tq T x y 120 < tq T y x 120 then tq T y x 120 else tq T x y 120
theorem ml_i {a b : Nat} (ha : a < 1000) (hb : b < 1000) : (if nI a < nI b then nI b else nI a) = nI (if a < b then b else a) := by
  by_cases h : a < b
  · rw [if_pos h, if_pos (nI_lt h (by omega))]
  · rw [if_neg h, if_neg (Int32.not_lt.mpr (nI_le (by omega) (by omega)))]
theorem ml_le (T : aSg) (x y : Nat) : mlN T x y ≤ 120 := by
  unfold mlN
  have := tq_le (T := T) (x := x) (y := y) 120
  have := tq_le (T := T) (x := y) (y := x) 120
  split <;> omega
theorem ml_pos {T : aSg} {x y : Nat} (hx : x < 5) (hy : y < 5) (hn : x ≠ y) : (coN T 120 = 0 → mlN T x y = 0) ∧ (¬ coN T 120 = 0 → 0 < mlN T x y) := by
  have := tq_sum (T := T) hx hy hn 120 (by omega)
  unfold mlN
  refine ⟨fun z => ?_, fun z => ?_⟩ <;> split <;> omega
def pI {σ : Type} (f : Nat → Nat → σ → σ) (x : Nat) : Nat → Nat → σ → σ
  | 0, _, s => s
  | d + 1, y, s => pI f x d (y + 1) (f x y s)
def pO {σ : Type} (f : Nat → Nat → σ → σ) : Nat → Nat → σ → σ
  | 0, _, s => s
  | d + 1, x, s => pO f d (x + 1) (pI f x (4 - x) (x + 1) s)
def pairs : List (Nat × Nat) := [(0, 1), (0, 2), (0, 3), (0, 4), (1, 2), (1, 3), (1, 4), (2, 3), (2, 4), (3, 4)]
theorem pO_l {σ : Type} (f : Nat → Nat → σ → σ) (s : σ) : pO f 5 0 s = pairs.foldl (fun s p => f p.1 p.2 s) s := rfl
def qC (T : aSg) (x y : Nat) (s : Int32 × Int32) : Int32 × Int32 := if s.1 = -6 ∨ nI (mlN T x y) < s.2 then (nI (10 * x + y), nI (mlN T x y)) else s
def qM (T : aSg) (x y : Nat) (s : Int32 × Int32) : Int32 × Int32 := (if nI (mlN T x y) < s.2 then nI (10 * x + y) else s.1, if nI (mlN T x y) ≤ s.2 then nI (mlN T x y) else s.2)
def qR (T : aSg) : Int32 × Int32 := pO (qM T) 5 0 (1, nI (mlN T 0 1))
def r_ask (A : aA) (w : Int32) : Int32 × aA := if ¬ (0 ≤ w ∧ w ≤ 1) then (-2, A) else if coN (aT A) 120 = 0 then (-6, A) else (if w = 0 then (qR (aT A)).1 else (qR (aT A)).2, A)
def gd (s : Int32 × Int32) : Prop := ∃ q v, s = (nI q, nI v) ∧ q < 100 ∧ 0 < v ∧ v ≤ 120
theorem q_step {T : aSg} {x y : Nat} {s : Int32 × Int32} (hx : x < 5) (hy : y < 5) (hn : x ≠ y) (hc : ¬ coN T 120 = 0) (h : gd s) : qC T x y s = qM T x y s ∧ gd (qM T x y s) := by
  obtain ⟨q, v, e, hq, hv, hv2⟩ := h
  have h1 := ml_le T x y
  have h2 := (ml_pos (T := T) hx hy hn).2 hc
  subst e
  unfold qC qM
  have n6 : ¬ nI q = -6 := nI_ne6 (by omega)
  by_cases z : mlN T x y < v
  · have a : nI (mlN T x y) < nI v := nI_lt z (by omega)
    rw [if_pos (Or.inr a), if_pos a, if_pos (Int32.le_of_lt a)]
    exact ⟨rfl, 10 * x + y, mlN T x y, rfl, by omega, h2, h1⟩
  · have a : ¬ nI (mlN T x y) < nI v := Int32.not_lt.mpr (nI_le (by omega) (by omega))
    rw [if_neg (fun w => w.elim n6 a), if_neg a]
    by_cases z2 : mlN T x y = v
    · rw [z2, if_pos (Int32.le_refl _)]
      exact ⟨rfl, q, v, rfl, hq, hv, hv2⟩
    · rw [if_neg (fun w => z2 (by have := (nI_leI (by omega) (by omega)).mp w; omega))]
      exact ⟨rfl, q, v, rfl, hq, hv, hv2⟩
theorem q_list {T : aSg} (hc : ¬ coN T 120 = 0) : ∀ (L : List (Nat × Nat)) (s : Int32 × Int32), (∀ p ∈ L, p.1 < 5 ∧ p.2 < 5 ∧ p.1 ≠ p.2) → gd s → L.foldl (fun s p => qC T p.1 p.2 s) s = L.foldl (fun s p => qM T p.1 p.2 s) s ∧ gd (L.foldl (fun s p => qM T p.1 p.2 s) s)
  | [], _, _, h => ⟨rfl, h⟩
  | p :: L, s, hp, h => by
    have a := hp p (List.mem_cons_self ..)
    have b := q_step (T := T) a.1 a.2.1 a.2.2 hc h
    rw [List.foldl_cons, List.foldl_cons, b.1]
    exact q_list hc L _ (fun q hq => hp q (List.mem_cons_of_mem _ hq)) b.2
def prT : List (Nat × Nat) := [(0, 2), (0, 3), (0, 4), (1, 2), (1, 3), (1, 4), (2, 3), (2, 4), (3, 4)]
theorem prT_ok : ∀ p ∈ prT, p.1 < 5 ∧ p.2 < 5 ∧ p.1 ≠ p.2 := by decide
theorem pO_2 {σ : Type} (f : Nat → Nat → σ → σ) (s : σ) : pO f 5 0 s = prT.foldl (fun s p => f p.1 p.2 s) (f 0 1 s) := rfl
theorem q_e1 (T : aSg) : qC T 0 1 (-6, -6) = (nI 1, nI (mlN T 0 1)) := by
  unfold qC
  rw [if_pos (Or.inl rfl)]
theorem q_e2 (T : aSg) : qM T 0 1 (1, nI (mlN T 0 1)) = (nI 1, nI (mlN T 0 1)) := by
  unfold qM
  have z : ¬ nI (mlN T 0 1) < nI (mlN T 0 1) := fun z => Int32.lt_irrefl z
  rw [if_neg z, if_pos (Int32.le_refl _)]
  rfl
theorem q_all {T : aSg} (hc : ¬ coN T 120 = 0) : pO (qC T) 5 0 (-6, -6) = qR T ∧ gd (qR T) := by
  have h1 := ml_le T 0 1
  have h2 := (ml_pos (T := T) (x := 0) (y := 1) (by decide) (by decide) (by decide)).2 hc
  unfold qR
  rw [pO_2, pO_2, q_e1, q_e2]
  exact q_list hc prT (nI 1, nI (mlN T 0 1)) prT_ok ⟨1, mlN T 0 1, rfl, by decide, h2, h1⟩
theorem q_none {T : aSg} (hc : coN T 120 = 0) : (qR T).2 = 0 := by
  have e : ∀ (L : List (Nat × Nat)) (s : Int32 × Int32), (∀ p ∈ L, p.1 < 5 ∧ p.2 < 5 ∧ p.1 ≠ p.2) → s.2 = 0 → (L.foldl (fun s p => qM T p.1 p.2 s) s).2 = 0 := by
    intro L
    induction L with
    | nil => intro s _ h; exact h
    | cons p L ih =>
      intro s hp h
      have a := hp p (List.mem_cons_self ..)
      have b := (ml_pos (T := T) a.1 a.2.1 a.2.2).1 hc
      rw [List.foldl_cons]
      refine ih _ (fun q hq => hp q (List.mem_cons_of_mem _ hq)) ?_
      show (if nI (mlN T p.1 p.2) ≤ s.2 then nI (mlN T p.1 p.2) else s.2) = 0
      rw [b, h]
      rfl
  unfold qR
  rw [pO_l]
  refine e _ _ (by decide) ?_
  show nI (mlN T 0 1) = 0
  rw [(ml_pos (T := T) (x := 0) (y := 1) (by decide) (by decide) (by decide)).1 hc]
  rfl
def TM (m : aMem) (T : aSg) (j : Nat) : Prop := ∀ x y, x < y → y < 5 → m.1 29 (5 * x + y) = nI (tq T x y j)
def TI (m : aMem) (T : aSg) (j x0 y0 : Nat) : Prop := ∀ x y, x < y → y < 5 → ((x < x0 ∨ (x = x0 ∧ y < y0)) → m.1 29 (5 * x + y) = nI (tq T x y (j + 1))) ∧ (¬ (x < x0 ∨ (x = x0 ∧ y < y0)) → m.1 29 (5 * x + y) = nI (tq T x y j))
theorem TI.w {m : aMem} {T : aSg} {j x y v : Nat} (h : TI m T j x y) (hxy : x < y) (hy : y < 5) (e : tq T x y (j + 1) = v) : TI (am_wi m.1 29 (5 * x + y) (nI v), m.2) T j x (y + 1) := fun x1 y1 h1 h2 => by
  show (_ → am_wi m.1 29 (5 * x + y) (nI v) 29 (5 * x1 + y1) = _) ∧ (_ → am_wi m.1 29 (5 * x + y) (nI v) 29 (5 * x1 + y1) = _)
  rw [am_wi_s]
  by_cases z : 5 * x1 + y1 = 5 * x + y
  · have z1 : x1 = x := by omega
    have z2 : y1 = y := by omega
    subst z1 z2
    rw [upd_at, e]
    exact ⟨fun _ => rfl, fun w => absurd (Or.inr ⟨rfl, Nat.lt_succ_self _⟩) w⟩
  · rw [upd_ne z]
    have := h x1 y1 h1 h2
    exact ⟨fun w => this.1 (by omega), fun w => this.2 (by omega)⟩
theorem TI.s {m : aMem} {T : aSg} {j x y : Nat} (h : TI m T j x y) (e : tq T x y (j + 1) = tq T x y j) : TI m T j x (y + 1) := fun x1 y1 h1 h2 => by
  have := h x1 y1 h1 h2
  by_cases z : x1 = x ∧ y1 = y
  · obtain ⟨z1, z2⟩ := z
    subst z1 z2
    have a := this.2 (by omega)
    exact ⟨fun _ => by rw [a, e], fun _ => a⟩
  · exact ⟨fun w => this.1 (by omega), fun w => this.2 (by omega)⟩
theorem TI.n {m : aMem} {T : aSg} {j x : Nat} (h : TI m T j x 5) : TI m T j (x + 1) (x + 1 + 1) := fun x1 y1 h1 h2 => by
  have := h x1 y1 h1 h2
  exact ⟨fun w => this.1 (by omega), fun w => this.2 (by omega)⟩
section O3
variable {X : aX} {m : aMem} {A : aA} {K : Int32 → aMem → Prop}
theorem Fr.pl {lo hi q i : Nat} {m' : aMem} (f : Fr lo hi m m') (hq : q < lo ∨ hi ≤ q) (h : PL m q i) : PL m' q i := fun u hu => by rw [f.1 q hq]; exact h u hu
theorem Fr.tm {lo hi j : Nat} {T : aSg} {m' : aMem} (f : Fr lo hi m m') (hq : 29 < lo ∨ hi ≤ 29) (h : TM m T j) : TM m' T j := fun x y h1 h2 => by rw [f.1 29 hq]; exact h x y h1 h2
theorem c_addPairs {K : aMem → Prop} {T : aSg} {j : Nat} (hj : j < 120) (hf : fitO T j) (hP : PL m 28 j) (hT : TM m T j) (h : ∀ m', Fr 29 30 m m' → TM m' T (j + 1) → K m') : gCv X 21 [.ref 27] m K := by
  refine g_inV rfl ?_
  have loop : ∀ (dx x : Nat) (m1 : aMem) (v2 : Value), x + dx = 5 → Fr 29 30 m m1 → TI m1 T j x (x + 1) → gG X 21 2 [.ref 27, .int (nI x), v2] [] m1 (fun r m' => r = none ∧ K m') := by
    intro dx
    induction dx with
    | zero =>
      intro x m1 v2 hdx hF hI
      have hi : x = 5 := by omega
      subst hi
      refine g_iload_n (pc' := 3) rfl rfl rfl ?_
      refine g_iconst (pc' := 4) (v := 5) rfl rfl (by decide) ?_
      refine g_icmp_ge (pc' := 7) (t := 57) rfl rfl rfl (fun c_4 => ?_) (fun c_4 => absurd (by decide) c_4)
      exact g_return rfl rfl (h m1 hF (fun x y h1 h2 => (hI x y h1 h2).1 (by omega)))
    | succ dx ihx =>
      intro x m1 v2 hdx hF hI
      have hlx : x < 5 := by omega
      refine g_iload_n (pc' := 3) rfl rfl rfl ?_
      refine g_iconst (pc' := 4) (v := 5) rfl rfl (by decide) ?_
      refine g_icmp_ge (pc' := 7) (t := 57) rfl rfl rfl (fun c_4 => absurd c_4 (nI_ge (b := 5) hlx (by decide))) (fun c_4 => ?_)
      refine g_iload_n (pc' := 8) rfl rfl rfl ?_
      refine g_iconst (pc' := 9) (v := 1) rfl rfl (by decide) ?_
      refine g_iadd (pc' := 10) rfl rfl ?_
      refine g_vi (y := nI (x + 1)) (nI_1 x) ?_
      refine g_istore_n (pc' := 11) rfl rfl rfl ?_
      have loopy : ∀ (dy y : Nat) (m1 : aMem), y + dy = 5 → x < y → Fr 29 30 m m1 → TI m1 T j x y → gG X 21 11 [.ref 27, .int (nI x), .int (nI y)] [] m1 (fun r m' => r = none ∧ K m') := by
        intro dy
        induction dy with
        | zero =>
          intro y m1 hdy hxy hF hI
          have hi : y = 5 := by omega
          subst hi
          refine g_iload_n (pc' := 12) rfl rfl rfl ?_
          refine g_iconst (pc' := 13) (v := 5) rfl rfl (by decide) ?_
          refine g_icmp_ge (pc' := 16) (t := 51) rfl rfl rfl (fun c_13 => ?_) (fun c_13 => absurd (by decide) c_13)
          refine g_iinc (pc' := 54) (v := nI (x + 1)) rfl rfl rfl (nI_1 x) rfl ?_
          refine g_goto (pc' := 2) rfl rfl ?_
          exact ihx (x + 1) m1 _ (by omega) hF hI.n
        | succ dy ihy =>
          intro y m1 hdy hxy hF hI
          have hly : y < 5 := by omega
          refine g_iload_n (pc' := 12) rfl rfl rfl ?_
          refine g_iconst (pc' := 13) (v := 5) rfl rfl (by decide) ?_
          refine g_icmp_ge (pc' := 16) (t := 51) rfl rfl rfl (fun c_13 => absurd c_13 (nI_ge (b := 5) hly (by decide))) (fun c_13 => ?_)
          refine g_aload_n (pc' := 17) rfl rfl rfl ?_
          refine g_getr (pc' := 20) rfl rfl (f_3_0) ?_
          refine g_iload_n (pc' := 21) rfl rfl rfl ?_
          refine g_iald (pc' := 22) rfl rfl (a_28) (k := x) (by omega) rfl ?_
          refine g_vi (y := nI (plO j x)) (hF.pl (by omega) hP x (by omega)) ?_
          refine g_aload_n (pc' := 23) rfl rfl rfl ?_
          refine g_getr (pc' := 26) rfl rfl (f_3_0) ?_
          refine g_iload_n (pc' := 27) rfl rfl rfl ?_
          refine g_iald (pc' := 28) rfl rfl (a_28) (k := y) (by omega) rfl ?_
          refine g_vi (y := nI (plO j y)) (hF.pl (by omega) hP y (by omega)) ?_
          have p3 := (o_2 j hj x (by omega)).2
          have p4 := (o_2 j hj y (by omega)).2
          refine g_icmp_ge (pc' := 31) (t := 45) rfl rfl rfl (fun c_28 => ?_) (fun c_28 => ?_)
          · refine g_iinc (pc' := 48) (v := nI (y + 1)) rfl rfl rfl (nI_1 y) rfl ?_
            refine g_goto (pc' := 11) rfl rfl ?_
            exact ihy (y + 1) m1 (by omega) (by omega) hF (hI.s (tq_q (Nat.not_lt.mpr ((nI_leI (by omega) (by omega)).mp c_28))))
          · refine g_aload_n (pc' := 32) rfl rfl rfl ?_
            refine g_getr (pc' := 35) rfl rfl (f_3_1) ?_
            refine g_iconst (pc' := 36) (v := 5) rfl rfl (by decide) ?_
            refine g_iload_n (pc' := 37) rfl rfl rfl ?_
            refine g_imul (pc' := 38) rfl rfl ?_
            refine g_vi (y := nI (5 * x)) (pk_mul 5 x) ?_
            refine g_iload_n (pc' := 39) rfl rfl rfl ?_
            refine g_iadd (pc' := 40) rfl rfl ?_
            refine g_vi (y := nI (5 * x + y)) (nI_add _ _) ?_
            refine g_dup2 (pc' := 41) rfl rfl ?_
            refine g_iald (pc' := 42) rfl rfl (a_29) (k := 5 * x + y) (by omega) rfl ?_
            refine g_vi (y := nI (tq T x y j)) ((hI x y hxy hly).2 (by omega)) ?_
            refine g_iconst (pc' := 43) (v := 1) rfl rfl (by decide) ?_
            refine g_iadd (pc' := 44) rfl rfl ?_
            refine g_vi (y := nI (tq T x y j + 1)) (nI_1 _) ?_
            refine g_iast (pc' := 45) rfl rfl (a_29) (k := 5 * x + y) (by omega) rfl ?_
            refine g_iinc (pc' := 48) (v := nI (y + 1)) rfl rfl rfl (nI_1 y) rfl ?_
            refine g_goto (pc' := 11) rfl rfl ?_
            exact ihy (y + 1) _ (by omega) (by omega) (hF.s (by omega) (by omega)) (hI.w hxy hly (tq_p hf (Nat.not_le.mp (fun z => c_28 (nI_le z (by omega))))))
      exact loopy (4 - x) (x + 1) m1 (by omega) (by omega) hF hI
  refine g_iconst (pc' := 1) (v := 0) rfl rfl (by decide) ?_
  refine g_istore_n (pc' := 2) rfl rfl rfl ?_
  exact loop 5 0 m _ rfl Fr.rf (fun x y h1 h2 => ⟨fun w => absurd w (by omega), fun _ => hT x y h1 h2⟩)
theorem c_pairs {T : aSg} (hT : sgAt m 24 = T) (hW : WT T) (h : ∀ m', Fr 28 30 m m' → TM m' T 120 → K (nI (coN T 120)) m') : gCi X 20 [.ref 27, .ref 24] m K := by
  refine g_inI rfl ?_
  have loop : ∀ (d i : Nat) (m1 : aMem) (v3 : Value), i + d = 25 → Fr 28 30 m m1 → (∀ k, k < i → m1.1 29 k = 0) → gG X 20 2 [.ref 27, .ref 24, .int (nI i), v3] [] m1 (fun r m' => ∃ v, r = some (.int v) ∧ K v m') := by
    intro d
    induction d with
    | zero =>
      intro i m1 v3 hd hF hz
      have hi : i = 25 := by omega
      subst hi
      refine g_iload_n (pc' := 3) rfl rfl rfl ?_
      refine g_bipush (pc' := 5) (v := 25) rfl rfl (by decide) ?_
      refine g_icmp_ge (pc' := 8) (t := 21) rfl rfl rfl (fun c_5 => ?_) (fun c_5 => absurd (by decide) c_5)
      refine g_iconst (pc' := 22) (v := 0) rfl rfl (by decide) ?_
      refine g_istore_n (pc' := 23) rfl rfl rfl ?_
      refine g_iconst (pc' := 24) (v := 0) rfl rfl (by decide) ?_
      refine g_istore_n (pc' := 25) rfl rfl rfl ?_
      have loop2 : ∀ (d i : Nat) (m1 : aMem), i + d = 120 → Fr 28 30 m m1 → TM m1 T i → gG X 20 25 [.ref 27, .ref 24, .int (nI (coN T i)), .int (nI i)] [] m1 (fun r m' => ∃ v, r = some (.int v) ∧ K v m') := by
        intro d
        induction d with
        | zero =>
          intro i m1 hd hF hM
          have hi : i = 120 := by omega
          subst hi
          refine g_iload_n (pc' := 26) rfl rfl rfl ?_
          refine g_bipush (pc' := 28) (v := 120) rfl rfl (by decide) ?_
          refine g_icmp_ge (pc' := 31) (t := 61) rfl rfl rfl (fun c_28 => ?_) (fun c_28 => absurd (by decide) c_28)
          refine g_iload_n (pc' := 62) rfl rfl rfl ?_
          exact g_ireturn rfl rfl (h m1 hF hM)
        | succ d ih =>
          intro i m1 hd hF hM
          have hlt : i < 120 := by omega
          refine g_iload_n (pc' := 26) rfl rfl rfl ?_
          refine g_bipush (pc' := 28) (v := 120) rfl rfl (by decide) ?_
          refine g_icmp_ge (pc' := 31) (t := 61) rfl rfl rfl (fun c_28 => absurd c_28 (nI_ge (b := 120) hlt (by decide))) (fun c_28 => ?_)
          refine g_aload_n (pc' := 32) rfl rfl rfl ?_
          refine g_iload_n (pc' := 33) rfl rfl rfl ?_
          refine g_calli (pc' := 36) rfl rfl rfl rfl (Or.inr rfl) ?_
          refine c_lay hlt (fun m2 f2 p2 => ?_)
          refine g_pop (pc' := 37) rfl rfl rfl ?_
          refine g_aload_n (pc' := 38) rfl rfl rfl ?_
          refine g_aload_n (pc' := 39) rfl rfl rfl ?_
          refine g_getr (pc' := 42) rfl rfl (f_3_0) ?_
          refine g_calli (pc' := 45) rfl rfl rfl rfl (Or.inr (rc_T isT_24)) ?_
          refine c_fit (T := T) hlt ((f2.sg (p := 24) (by omega)).trans ((hF.sg (p := 24) (by omega)).trans hT)) hW p2 (fun q => ?_) (fun q => ?_)
          · refine g_if_eq (pc' := 48) (t := 55) rfl rfl rfl (fun c => absurd c (by decide)) (fun _ => ?_)
            refine g_iinc (pc' := 51) (v := nI (coN T i + 1)) rfl rfl rfl (nI_1 _) rfl ?_
            refine g_aload_n (pc' := 52) rfl rfl rfl ?_
            refine g_callv (pc' := 55) rfl rfl rfl rfl (Or.inr rfl) ?_
            refine c_addPairs hlt q p2 (f2.tm (by omega) hM) (fun m3 f3 t3 => ?_)
            refine g_iinc (pc' := 58) (v := nI (i + 1)) rfl rfl rfl (nI_1 i) rfl ?_
            refine g_goto (pc' := 25) rfl rfl ?_
            have hh := ih (i + 1) m3 (by omega) ((hF.tr (f2.wide (by decide) (by decide))).tr (f3.wide (by decide) (by decide))) t3
            rw [co_p q] at hh
            exact hh
          · refine g_if_eq (pc' := 48) (t := 55) rfl rfl rfl (fun _ => ?_) (fun c => absurd c (by decide))
            refine g_iinc (pc' := 58) (v := nI (i + 1)) rfl rfl rfl (nI_1 i) rfl ?_
            refine g_goto (pc' := 25) rfl rfl ?_
            have hh := ih (i + 1) m2 (by omega) (hF.tr (f2.wide (by decide) (by decide))) (fun x y h1 h2 => by rw [tq_n q]; exact f2.tm (by omega) hM x y h1 h2)
            rw [co_q q] at hh
            exact hh
      exact loop2 120 0 m1 rfl hF (fun x y h1 h2 => hz _ (by omega))
    | succ d ih =>
      intro i m1 v3 hd hF hz
      have hlt : i < 25 := by omega
      refine g_iload_n (pc' := 3) rfl rfl rfl ?_
      refine g_bipush (pc' := 5) (v := 25) rfl rfl (by decide) ?_
      refine g_icmp_ge (pc' := 8) (t := 21) rfl rfl rfl (fun c_5 => absurd c_5 (nI_ge (b := 25) hlt (by decide))) (fun c_5 => ?_)
      refine g_aload_n (pc' := 9) rfl rfl rfl ?_
      refine g_getr (pc' := 12) rfl rfl (f_3_1) ?_
      refine g_iload_n (pc' := 13) rfl rfl rfl ?_
      refine g_iconst (pc' := 14) (v := 0) rfl rfl (by decide) ?_
      refine g_iast (pc' := 15) rfl rfl (a_29) (k := i) (by omega) rfl ?_
      refine g_iinc (pc' := 18) (v := nI (i + 1)) rfl rfl rfl (nI_1 i) rfl ?_
      refine g_goto (pc' := 2) rfl rfl ?_
      exact ih (i + 1) _ _ (by omega) (hF.s (by omega) (by omega)) (fun k hk => by
        show am_wi m1.1 29 i 0 29 k = _
        rw [am_wi_s]
        by_cases e : k = i
        · rw [e, upd_at]
        · rw [upd_ne e]; exact hz k (by omega))
  refine g_iconst (pc' := 1) (v := 0) rfl rfl (by decide) ?_
  refine g_istore_n (pc' := 2) rfl rfl rfl ?_
  exact loop 25 0 m _ rfl Fr.rf (fun k hk => absurd hk (Nat.not_lt_zero _))
theorem c_question {K : aMem → Prop} {T : aSg} (hT : sgAt m 24 = T) (hW : WT T) (h0 : coN T 120 = 0 → ∀ m', Fr 27 30 m m' → m'.1 27 2 = -6 → m'.1 27 3 = -6 → K m') (h1 : ¬ coN T 120 = 0 → ∀ m', Fr 27 30 m m' → (m'.1 27 2, m'.1 27 3) = pO (qC T) 5 0 (-6, -6) → K m') : gCv X 19 [.ref 27, .ref 24] m K := by
  refine g_inV rfl ?_
  refine g_aload_n (pc' := 1) rfl rfl rfl ?_
  refine g_bipush (pc' := 3) (v := -6) rfl rfl (by decide) ?_
  refine g_puti (pc' := 6) rfl rfl (i_3_2) ?_
  refine g_aload_n (pc' := 7) rfl rfl rfl ?_
  refine g_bipush (pc' := 9) (v := -6) rfl rfl (by decide) ?_
  refine g_puti (pc' := 12) rfl rfl (i_3_3) ?_
  refine g_mem (fun m1 hm1 => ?_)
  have f1 : Fr 27 28 m m1 := by rw [hm1]; exact (Fr.rf.s (by omega) (by omega)).s (by omega) (by omega)
  have e2 : m1.1 27 2 = -6 := by rw [hm1]; show am_wi (am_wi m.1 27 2 (-6)) 27 3 (-6) 27 2 = _; rw [am_wi_s, am_wi_s, upd_ne (by decide), upd_at]
  have e3 : m1.1 27 3 = -6 := by rw [hm1]; show am_wi (am_wi m.1 27 2 (-6)) 27 3 (-6) 27 3 = _; rw [am_wi_s, upd_at]
  refine g_aload_n (pc' := 13) rfl rfl rfl ?_
  refine g_aload_n (pc' := 14) rfl rfl rfl ?_
  refine g_calli (pc' := 17) rfl rfl rfl rfl (Or.inr rfl) ?_
  refine c_pairs (T := T) ((f1.sg (p := 24) (by omega)).trans hT) hW (fun m2 f2 t2 => ?_)
  have fA : Fr 27 30 m m2 := (f1.wide (by decide) (by decide)).tr (f2.wide (by decide) (by decide))
  have g2 : m2.1 27 2 = -6 := by rw [f2.1 27 (by omega)]; exact e2
  have g3 : m2.1 27 3 = -6 := by rw [f2.1 27 (by omega)]; exact e3
  have cl := coN_le T 120
  refine g_istore_n (pc' := 18) rfl rfl rfl ?_
  refine g_iload_n (pc' := 19) rfl rfl rfl ?_
  refine g_if_ne (pc' := 22) (t := 23) rfl rfl rfl (fun c_19 => ?_) (fun c_19 => ?_)
  · have hc : ¬ coN T 120 = 0 := fun z => c_19 (by rw [z]; rfl)
    refine g_iconst (pc' := 24) (v := 0) rfl rfl (by decide) ?_
    refine g_istore_n (pc' := 25) rfl rfl rfl ?_
    have loopx : ∀ (dx x : Nat) (m3 : aMem) (v4 v5 v6 : Value), x + dx = 5 → Fr 27 30 m m3 → TM m3 T 120 → pO (qC T) dx x (m3.1 27 2, m3.1 27 3) = pO (qC T) 5 0 (-6, -6) → gG X 19 25 [.ref 27, .ref 24, .int (nI (coN T 120)), .int (nI x), v4, v5, v6] [] m3 (fun r m' => r = none ∧ K m') := by
      intro dx
      induction dx with
      | zero =>
        intro x m3 v4 v5 v6 hdx hF hM hR
        have hi : x = 5 := by omega
        subst hi
        refine g_iload_n (pc' := 26) rfl rfl rfl ?_
        refine g_iconst (pc' := 27) (v := 5) rfl rfl (by decide) ?_
        refine g_icmp_ge (pc' := 30) (t := 112) rfl rfl rfl (fun c_27 => ?_) (fun c_27 => absurd (by decide) c_27)
        exact g_return rfl rfl (h1 hc m3 hF hR)
      | succ dx ihx =>
        intro x m3 v4 v5 v6 hdx hF hM hR
        have hlx : x < 5 := by omega
        refine g_iload_n (pc' := 26) rfl rfl rfl ?_
        refine g_iconst (pc' := 27) (v := 5) rfl rfl (by decide) ?_
        refine g_icmp_ge (pc' := 30) (t := 112) rfl rfl rfl (fun c_27 => absurd c_27 (nI_ge (b := 5) hlx (by decide))) (fun c_27 => ?_)
        refine g_iload_n (pc' := 31) rfl rfl rfl ?_
        refine g_iconst (pc' := 32) (v := 1) rfl rfl (by decide) ?_
        refine g_iadd (pc' := 33) rfl rfl ?_
        refine g_vi (y := nI (x + 1)) (nI_1 x) ?_
        refine g_istore (pc' := 35) rfl rfl rfl ?_
        have loopy : ∀ (dy y : Nat) (m3 : aMem) (v5 v6 : Value), y + dy = 5 → x < y → Fr 27 30 m m3 → TM m3 T 120 → pO (qC T) dx (x + 1) (pI (qC T) x dy y (m3.1 27 2, m3.1 27 3)) = pO (qC T) 5 0 (-6, -6) → gG X 19 35 [.ref 27, .ref 24, .int (nI (coN T 120)), .int (nI x), .int (nI y), v5, v6] [] m3 (fun r m' => r = none ∧ K m') := by
          intro dy
          induction dy with
          | zero =>
            intro y m3 v5 v6 hdy hxy hF hM hR
            have hi : y = 5 := by omega
            subst hi
            refine g_iload (pc' := 37) rfl rfl rfl ?_
            refine g_iconst (pc' := 38) (v := 5) rfl rfl (by decide) ?_
            refine g_icmp_ge (pc' := 41) (t := 106) rfl rfl rfl (fun c_38 => ?_) (fun c_38 => absurd (by decide) c_38)
            refine g_iinc (pc' := 109) (v := nI (x + 1)) rfl rfl rfl (nI_1 x) rfl ?_
            refine g_goto (pc' := 25) rfl rfl ?_
            exact ihx (x + 1) m3 _ _ _ (by omega) hF hM hR
          | succ dy ihy =>
            intro y m3 v5 v6 hdy hxy hF hM hR
            have hly : y < 5 := by omega
            refine g_iload (pc' := 37) rfl rfl rfl ?_
            refine g_iconst (pc' := 38) (v := 5) rfl rfl (by decide) ?_
            refine g_icmp_ge (pc' := 41) (t := 106) rfl rfl rfl (fun c_38 => absurd c_38 (nI_ge (b := 5) hly (by decide))) (fun c_38 => ?_)
            refine g_aload_n (pc' := 42) rfl rfl rfl ?_
            refine g_getr (pc' := 45) rfl rfl (f_3_1) ?_
            refine g_iconst (pc' := 46) (v := 5) rfl rfl (by decide) ?_
            refine g_iload_n (pc' := 47) rfl rfl rfl ?_
            refine g_imul (pc' := 48) rfl rfl ?_
            refine g_vi (y := nI (5 * x)) (pk_mul 5 x) ?_
            refine g_iload (pc' := 50) rfl rfl rfl ?_
            refine g_iadd (pc' := 51) rfl rfl ?_
            refine g_vi (y := nI (5 * x + y)) (nI_add _ _) ?_
            refine g_iald (pc' := 52) rfl rfl (a_29) (k := 5 * x + y) (by omega) rfl ?_
            refine g_vi (y := nI (tq T x y 120)) (hM x y hxy hly) ?_
            refine g_istore (pc' := 54) rfl rfl rfl ?_
            refine g_iload (pc' := 56) rfl rfl rfl ?_
            refine g_iload_n (pc' := 57) rfl rfl rfl ?_
            refine g_iload (pc' := 59) rfl rfl rfl ?_
            refine g_isub (pc' := 60) rfl rfl ?_
            refine g_vi (y := nI (tq T y x 120)) (by rw [← tq_sum (T := T) (x := x) (y := y) (by omega) hly (by omega) 120 (by omega), Nat.add_comm]; rw [Nat.add_comm]; exact i_sub) ?_
            refine g_max (pc' := 63) (b := 0) rfl rfl rfl ?_
            refine g_vi (y := nI (mlN T x y)) (ml_i (by have := tq_le (T := T) (x := x) (y := y) 120; omega) (by have := tq_le (T := T) (x := y) (y := x) 120; omega)) ?_
            refine g_istore (pc' := 65) rfl rfl rfl ?_
            refine g_aload_n (pc' := 66) rfl rfl rfl ?_
            refine g_geti (pc' := 69) rfl rfl (i_3_2) ?_
            refine g_bipush (pc' := 71) (v := -6) rfl rfl (by decide) ?_
            refine g_icmp_eq (pc' := 74) (t := 83) rfl rfl rfl (fun c_71 => ?_) (fun c_71 => ?_)
            · refine g_aload_n (pc' := 84) rfl rfl rfl ?_
              refine g_bipush (pc' := 86) (v := 10) rfl rfl (by decide) ?_
              refine g_iload_n (pc' := 87) rfl rfl rfl ?_
              refine g_imul (pc' := 88) rfl rfl ?_
              refine g_vi (y := nI (10 * x)) (pk_mul 10 x) ?_
              refine g_iload (pc' := 90) rfl rfl rfl ?_
              refine g_iadd (pc' := 91) rfl rfl ?_
              refine g_vi (y := nI (10 * x + y)) (nI_add _ _) ?_
              refine g_puti (pc' := 94) rfl rfl (i_3_2) ?_
              refine g_aload_n (pc' := 95) rfl rfl rfl ?_
              refine g_iload (pc' := 97) rfl rfl rfl ?_
              refine g_puti (pc' := 100) rfl rfl (i_3_3) ?_
              refine g_iinc (pc' := 103) (v := nI (y + 1)) rfl rfl rfl (nI_1 y) rfl ?_
              refine g_goto (pc' := 35) rfl rfl ?_
              have e2 : am_wi (am_wi m3.1 27 2 (nI (10 * x + y))) 27 3 (nI (mlN T x y)) 27 2 = (nI (10 * x + y)) := by rw [am_wi_s, am_wi_s, upd_ne (by decide), upd_at]
              have e3 : am_wi (am_wi m3.1 27 2 (nI (10 * x + y))) 27 3 (nI (mlN T x y)) 27 3 = (nI (mlN T x y)) := by rw [am_wi_s, upd_at]
              exact ihy (y + 1) (am_wi (am_wi m3.1 27 2 (nI (10 * x + y))) 27 3 (nI (mlN T x y)), m3.2) _ _ (by omega) (by omega) ((hF.s (by omega) (by omega)).s (by omega) (by omega)) (((Fr.rf.s (lo := 27) (hi := 28) (by omega) (by omega)).s (by omega) (by omega)).tm (by omega) hM) (by
                rw [← hR, pI, qC, if_pos (Or.inl c_71)]
                show pO (qC T) dx (x + 1) (pI (qC T) x dy (y + 1) (am_wi (am_wi m3.1 27 2 (nI (10 * x + y))) 27 3 (nI (mlN T x y)) 27 2, am_wi (am_wi m3.1 27 2 (nI (10 * x + y))) 27 3 (nI (mlN T x y)) 27 3)) = _
                rw [e2, e3])
            · refine g_iload (pc' := 76) rfl rfl rfl ?_
              refine g_aload_n (pc' := 77) rfl rfl rfl ?_
              refine g_geti (pc' := 80) rfl rfl (i_3_3) ?_
              refine g_icmp_ge (pc' := 83) (t := 100) rfl rfl rfl (fun c_80 => ?_) (fun c_80 => ?_)
              · refine g_iinc (pc' := 103) (v := nI (y + 1)) rfl rfl rfl (nI_1 y) rfl ?_
                refine g_goto (pc' := 35) rfl rfl ?_
                exact ihy (y + 1) m3 _ _ (by omega) (by omega) hF hM (by rw [← hR, pI, qC, if_neg (fun z => z.elim c_71 (Int32.not_lt.mpr c_80))])
              · refine g_aload_n (pc' := 84) rfl rfl rfl ?_
                refine g_bipush (pc' := 86) (v := 10) rfl rfl (by decide) ?_
                refine g_iload_n (pc' := 87) rfl rfl rfl ?_
                refine g_imul (pc' := 88) rfl rfl ?_
                refine g_vi (y := nI (10 * x)) (pk_mul 10 x) ?_
                refine g_iload (pc' := 90) rfl rfl rfl ?_
                refine g_iadd (pc' := 91) rfl rfl ?_
                refine g_vi (y := nI (10 * x + y)) (nI_add _ _) ?_
                refine g_puti (pc' := 94) rfl rfl (i_3_2) ?_
                refine g_aload_n (pc' := 95) rfl rfl rfl ?_
                refine g_iload (pc' := 97) rfl rfl rfl ?_
                refine g_puti (pc' := 100) rfl rfl (i_3_3) ?_
                refine g_iinc (pc' := 103) (v := nI (y + 1)) rfl rfl rfl (nI_1 y) rfl ?_
                refine g_goto (pc' := 35) rfl rfl ?_
                have e2 : am_wi (am_wi m3.1 27 2 (nI (10 * x + y))) 27 3 (nI (mlN T x y)) 27 2 = (nI (10 * x + y)) := by rw [am_wi_s, am_wi_s, upd_ne (by decide), upd_at]
                have e3 : am_wi (am_wi m3.1 27 2 (nI (10 * x + y))) 27 3 (nI (mlN T x y)) 27 3 = (nI (mlN T x y)) := by rw [am_wi_s, upd_at]
                exact ihy (y + 1) (am_wi (am_wi m3.1 27 2 (nI (10 * x + y))) 27 3 (nI (mlN T x y)), m3.2) _ _ (by omega) (by omega) ((hF.s (by omega) (by omega)).s (by omega) (by omega)) (((Fr.rf.s (lo := 27) (hi := 28) (by omega) (by omega)).s (by omega) (by omega)).tm (by omega) hM) (by
                  rw [← hR, pI, qC, if_pos (Or.inr (Int32.not_le.mp c_80))]
                  show pO (qC T) dx (x + 1) (pI (qC T) x dy (y + 1) (am_wi (am_wi m3.1 27 2 (nI (10 * x + y))) 27 3 (nI (mlN T x y)) 27 2, am_wi (am_wi m3.1 27 2 (nI (10 * x + y))) 27 3 (nI (mlN T x y)) 27 3)) = _
                  rw [e2, e3])
        exact loopy (4 - x) (x + 1) m3 _ _ (by omega) (by omega) hF hM hR
    exact loopx 5 0 m2 _ _ _ rfl fA t2 (by rw [g2, g3])
  · exact g_return rfl rfl (h0 ((nI_eq (b := 0) (by omega) (by decide)).mp c_19) m2 fA g2 g3)
theorem c_ask {w : Int32} (hC : CI m A) (hW : WT (aT A)) (h : ∀ m', Fr 1 53 m m' → CI m' (r_ask A w).2 → K (r_ask A w).1 m') : gCi X 93 [.ref 1, .int w] m K := by
  refine g_inI rfl ?_
  have et := hC.2.2.2.1
  refine g_iload_n (pc' := 1) rfl rfl rfl ?_
  refine g_iconst (pc' := 2) (v := 0) rfl rfl (by decide) ?_
  refine g_iconst (pc' := 3) (v := 1) rfl rfl (by decide) ?_
  refine g_calli (pc' := 6) rfl rfl rfl rfl (Or.inl rfl) ?_
  refine c_isWithin (fun u1 u2 => ?_) (fun u0 => ?_)
  · refine g_if_ne (pc' := 9) (t := 12) rfl rfl rfl (fun _ => ?_) (fun c => absurd c (by decide))
    refine g_aload_n (pc' := 13) rfl rfl rfl ?_
    refine g_getr (pc' := 16) rfl rfl (f_10_7) ?_
    refine g_aload_n (pc' := 17) rfl rfl rfl ?_
    refine g_getr (pc' := 20) rfl rfl (f_10_6) ?_
    refine g_callv (pc' := 23) rfl rfl rfl rfl (Or.inr rfl) ?_
    refine c_question et hW (fun hc m1 f1 a2 a3 => ?_) (fun hc m1 f1 hq => ?_)
    · refine g_iload_n (pc' := 24) rfl rfl rfl ?_
      refine g_if_ne (pc' := 27) (t := 37) rfl rfl rfl (fun c_24 => ?_) (fun c_24 => ?_)
      · refine g_aload_n (pc' := 38) rfl rfl rfl ?_
        refine g_getr (pc' := 41) rfl rfl (f_10_7) ?_
        refine g_geti (pc' := 44) rfl rfl (i_3_3) ?_
        exact g_ireturn rfl rfl (g_eq (cf h (show r_ask A w = (-6, A) by unfold r_ask; rw [if_neg (nn ⟨u1, u2⟩), if_pos hc]) (f1.wide (by decide) (by decide)) (hC.fr f1 (by omega))) a3 rfl)
      · refine g_aload_n (pc' := 28) rfl rfl rfl ?_
        refine g_getr (pc' := 31) rfl rfl (f_10_7) ?_
        refine g_geti (pc' := 34) rfl rfl (i_3_2) ?_
        refine g_goto (pc' := 44) rfl rfl ?_
        exact g_ireturn rfl rfl (g_eq (cf h (show r_ask A w = (-6, A) by unfold r_ask; rw [if_neg (nn ⟨u1, u2⟩), if_pos hc]) (f1.wide (by decide) (by decide)) (hC.fr f1 (by omega))) a2 rfl)
    · refine g_iload_n (pc' := 24) rfl rfl rfl ?_
      refine g_if_ne (pc' := 27) (t := 37) rfl rfl rfl (fun c_24 => ?_) (fun c_24 => ?_)
      · refine g_aload_n (pc' := 38) rfl rfl rfl ?_
        refine g_getr (pc' := 41) rfl rfl (f_10_7) ?_
        refine g_geti (pc' := 44) rfl rfl (i_3_3) ?_
        exact g_ireturn rfl rfl (g_eq (cf h (show r_ask A w = ((qR (aT A)).2, A) by unfold r_ask; rw [if_neg (nn ⟨u1, u2⟩), if_neg hc, if_neg c_24]) (f1.wide (by decide) (by decide)) (hC.fr f1 (by omega))) (congrArg Prod.snd (hq.trans (q_all hc).1)) rfl)
      · refine g_aload_n (pc' := 28) rfl rfl rfl ?_
        refine g_getr (pc' := 31) rfl rfl (f_10_7) ?_
        refine g_geti (pc' := 34) rfl rfl (i_3_2) ?_
        refine g_goto (pc' := 44) rfl rfl ?_
        exact g_ireturn rfl rfl (g_eq (cf h (show r_ask A w = ((qR (aT A)).1, A) by unfold r_ask; rw [if_neg (nn ⟨u1, u2⟩), if_neg hc, if_pos c_24]) (f1.wide (by decide) (by decide)) (hC.fr f1 (by omega))) (congrArg Prod.fst (hq.trans (q_all hc).1)) rfl)
  · refine g_if_ne (pc' := 9) (t := 12) rfl rfl rfl (fun c => absurd c (by decide)) (fun _ => ?_)
    refine g_bipush (pc' := 11) (v := -2) rfl rfl (by decide) ?_
    exact g_ireturn rfl rfl (cf h (by unfold r_ask; rw [if_pos u0]) Fr.rf hC)
end O3
