/-! THE SMALL MACHINE OVER THE SHAPES THAT THE CONSTRUCTORS MAKE: a row an instruction -/
def SHP : List aSh := [.inr (10, [some 2, some 8, some 10, some 11, some 17, some 20, some 24, some 27, some 30, some 32, some 33, some 43]), .inr (8, [some 3, some 4, some 5, some 6, some 7, none]), .inl (false, 10), .inl (false, 10), .inl (false, 10), .inl (false, 10), .inl (false, 10), .inr (4, [some 9, none]), .inl (false, 60), .inr (9, [some 11, none, none, none, none, none, none]), .inr (8, [some 12, some 13, some 14, some 15, some 16, none]), .inl (false, 10), .inl (false, 10), .inl (false, 10), .inl (false, 10), .inl (false, 10), .inr (5, [some 18, some 19]), .inl (false, 1024), .inl (false, 30), .inr (0, [some 21, some 22, some 23]), .inl (false, 4), .inl (false, 3), .inl (false, 3), .inr (7, [some 25, some 26, none]), .inl (false, 8), .inl (false, 8), .inr (3, [some 28, some 29, none, none]), .inl (false, 5), .inl (false, 25), .inr (6, [some 31, none]), .inl (false, 100), .inr (1, [none, none]), .inr (2, [some 34, some 40, none]), .inr (8, [some 35, some 36, some 37, some 38, some 39, none]), .inl (false, 10), .inl (false, 10), .inl (false, 10), .inl (false, 10), .inl (false, 10), .inr (7, [some 41, some 42, none]), .inl (false, 8), .inl (false, 8), .inr (2, [some 44, some 50, none]), .inr (8, [some 45, some 46, some 47, some 48, some 49, none]), .inl (false, 10), .inl (false, 10), .inl (false, 10), .inl (false, 10), .inl (false, 10), .inr (7, [some 51, some 52, none]), .inl (false, 8), .inl (false, 8), .inr (11, [some 54, some 55, some 56, some 57, some 58, none, some 59, some 60, none, some 61, none, some 62, some 63, some 64, none, none, none, some 65, none, none, none, none, none, none, none, some 66, some 67, some 68, some 69, some 70, none, none, some 71, some 72, none, none]), .inl (false, 10), .inl (false, 10), .inl (false, 10), .inl (false, 10), .inl (false, 10), .inl (false, 8), .inl (false, 8), .inl (false, 60), .inl (false, 60), .inl (false, 60), .inl (false, 60), .inl (false, 51), .inl (false, 1024), .inl (false, 4), .inl (false, 5), .inl (false, 25), .inl (false, 100), .inl (false, 140), .inl (true, 2)]

theorem am_ev_succ {X : aX} : ∀ (n : Nat) {j pc : Nat} {ls st : List Value} {S : aSt} {r : Option Value × aSt}, am_ev X n j pc ls st S = some r → am_ev X (n + 1) j pc ls st S = some r
  | 0, j, pc, ls, st, S, r, h => by cases h
  | n + 1, j, pc, ls, st, S, r, h => by
    unfold am_ev at h
    rw [am_ev]
    cases hI : am_in j pc with
    | none => rw [hI] at h; cases h
    | some I =>
      rw [hI] at h
      dsimp only at h ⊢
      cases hc : am_call j I st S with
      | some q =>
        obtain ⟨k, As, rest⟩ := q
        rw [hc] at h
        dsimp only at h ⊢
        cases h1 : am_ev X n k 0 (am_en As (am_L k)) [] S with
        | none => rw [h1] at h; cases h
        | some w =>
          obtain ⟨r1, S1⟩ := w
          rw [h1] at h
          dsimp only at h
          rw [am_ev_succ n h1]
          dsimp only
          exact am_ev_succ n h
      | none =>
        rw [hc] at h
        dsimp only at h ⊢
        cases hr : am_ret j I.1 st with
        | some q => rw [hr] at h; exact h
        | none =>
          rw [hr] at h
          dsimp only at h ⊢
          cases hs : am_step X j I pc ls st S with
          | none => rw [hs] at h; cases h
          | some w =>
            obtain ⟨pc1, ls1, st1, S1⟩ := w
            rw [hs] at h
            dsimp only at h ⊢
            exact am_ev_succ n h
theorem am_ev_add {X : aX} {n j pc : Nat} {ls st : List Value} {S : aSt} {r : Option Value × aSt} (h : am_ev X n j pc ls st S = some r) : ∀ k, am_ev X (n + k) j pc ls st S = some r
  | 0 => h
  | k + 1 => am_ev_succ (n + k) (am_ev_add h k)
def gG (X : aX) (j pc : Nat) (ls st : List Value) (m : aMem) (Q : Option Value → aMem → Prop) : Prop := ∃ (n : Nat) (r : Option Value) (m' : aMem), am_ev X n j pc ls st (SHP, m) = some (r, (SHP, m')) ∧ Q r m'
def gC (X : aX) (k : Nat) (As : List Value) (m : aMem) (Q : Option Value → aMem → Prop) : Prop := gG X k 0 (am_en As (am_L k)) [] m Q
def gCi (X : aX) (k : Nat) (As : List Value) (m : aMem) (K : Int32 → aMem → Prop) : Prop := gC X k As m fun r m' => ∃ v, r = some (.int v) ∧ K v m'
def gCl (X : aX) (k : Nat) (As : List Value) (m : aMem) (K : Int64 → aMem → Prop) : Prop := gC X k As m fun r m' => ∃ v, r = some (.long v) ∧ K v m'
def gCr (X : aX) (k : Nat) (As : List Value) (m : aMem) (K : Nat → aMem → Prop) : Prop := gC X k As m fun r m' => ∃ v, r = some (.ref v) ∧ K v m'
def gCv (X : aX) (k : Nat) (As : List Value) (m : aMem) (K : aMem → Prop) : Prop := gC X k As m fun r m' => r = none ∧ K m'
/-- the field b of class a in the cell p: what it refers to; whether it is a whole number, a truth, a long; how long the array p is -/
noncomputable def am_gr (a b p : Nat) : Option Nat := match p with
  | 0 => none
  | o + 1 => match SHP[o]?, am_ft a b with
    | some (.inr (ci, rs)), some (t, _) => if ci = a ∧ am_fk t = 2 then (match rs[b]? with
      | some (some k) => some k
      | _ => none) else none
    | _, _ => none
noncomputable def am_gk (k a b p : Nat) : Bool := match p with
  | 0 => false
  | o + 1 => match SHP[o]?, am_ft a b with
    | some (.inr (ci, _)), some (t, f) => decide (ci = a) && decide (am_fk t = k) && !f
    | _, _ => false
def am_ga (z : Bool) (n p : Nat) : Bool := match p with
  | 0 => false
  | o + 1 => match SHP[o]? with
    | some (.inl (y, k)) => decide (y = z) && decide (k = n)
    | _ => false
section GG
variable {X : aX} {j pc pc' len : Nat} {ls st ls' : List Value} {m : aMem} {Q : Option Value → aMem → Prop} {r : aR} {I : aI}
theorem g_eq {v v' : Int32} {m m' : aMem} {K : Int32 → aMem → Prop} (h : K v m) (e1 : v' = v) (e2 : m' = m) : K v' m' := by rw [e1, e2]; exact h
theorem g_step {st' : List Value} {m' : aMem} (hI : am_in j pc = some I) (hc : am_call j I st (SHP, m) = none) (hr : am_ret j I.1 st = none) (hs : am_step X j I pc ls st (SHP, m) = some (pc', ls', st', (SHP, m'))) (k : gG X j pc' ls' st' m' Q) : gG X j pc ls st m Q := by
  obtain ⟨n, r, m1, h, hQ⟩ := k
  refine ⟨n + 1, r, m1, ?_, hQ⟩
  rw [am_ev, hI]
  dsimp only
  rw [hc]
  dsimp only
  rw [hr]
  dsimp only
  rw [hs]
  exact h
theorem g_topi {x : Int32} (k : ∀ y : Int32, y = x → gG X j pc ls (.int y :: st) m Q) : gG X j pc ls (.int x :: st) m Q := k x rfl
theorem g_topl {x : Int64} (k : ∀ y : Int64, y = x → gG X j pc ls (.long y :: st) m Q) : gG X j pc ls (.long x :: st) m Q := k x rfl
theorem g_mem (k : ∀ m' : aMem, m' = m → gG X j pc ls st m' Q) : gG X j pc ls st m Q := k m rfl
theorem g_at (h : pc = pc') (k : gG X j pc' ls st m Q) : gG X j pc ls st m Q := h ▸ k
theorem g_vi {x y : Int32} (h : x = y) (k : gG X j pc ls (.int y :: st) m Q) : gG X j pc ls (.int x :: st) m Q := h ▸ k
theorem g_iconst {n : Int} {v : Int32} (hI : am_in j pc = some (.iconst n, len, r)) (hp : pc + len = pc') (hv : Int32.ofInt n = v) (k : gG X j pc' ls (.int v :: st) m Q) : gG X j pc ls st m Q := by
  subst hp; subst hv; exact g_step hI rfl rfl rfl k
theorem g_bipush {n : Int} {v : Int32} (hI : am_in j pc = some (.bipush n, len, r)) (hp : pc + len = pc') (hv : (Int8.ofInt n).toInt32 = v) (k : gG X j pc' ls (.int v :: st) m Q) : gG X j pc ls st m Q := by
  subst hp; subst hv; exact g_step hI rfl rfl rfl k
theorem g_sipush {n : Int} {v : Int32} (hI : am_in j pc = some (.sipush n, len, r)) (hp : pc + len = pc') (hv : (Int16.ofInt n).toInt32 = v) (k : gG X j pc' ls (.int v :: st) m Q) : gG X j pc ls st m Q := by
  subst hp; subst hv; exact g_step hI rfl rfl rfl k
theorem g_lconst {n : Fin 2} {v : Int64} (hI : am_in j pc = some (.lconst n, len, r)) (hp : pc + len = pc') (hv : Int64.ofNat (n : Nat) = v) (k : gG X j pc' ls (.long v :: st) m Q) : gG X j pc ls st m Q := by
  subst hp; subst hv; exact g_step hI rfl rfl rfl k
theorem g_ldc {n a b w : Nat} {z : Int} {v : Int32} (hI : am_in j pc = some (.ldc n, len, a, b, w, z)) (hp : pc + len = pc') (hv : Int32.ofInt z = v) (k : gG X j pc' ls (.int v :: st) m Q) : gG X j pc ls st m Q := by
  subst hp; subst hv; exact g_step hI rfl rfl rfl k
theorem g_ldc_w {n a b w : Nat} {z : Int} {v : Int32} (hI : am_in j pc = some (.ldc_w n, len, a, b, w, z)) (hp : pc + len = pc') (hv : Int32.ofInt z = v) (k : gG X j pc' ls (.int v :: st) m Q) : gG X j pc ls st m Q := by
  subst hp; subst hv; exact g_step hI rfl rfl rfl k
theorem g_ldc2_w {n a b w : Nat} {z : Int} {v : Int64} (hI : am_in j pc = some (.ldc2_w n, len, a, b, w, z)) (hp : pc + len = pc') (hv : Int64.ofInt z = v) (k : gG X j pc' ls (.long v :: st) m Q) : gG X j pc ls st m Q := by
  subst hp; subst hv; exact g_step hI rfl rfl rfl k

theorem g_iload {i : Nat} {x : Int32} (hI : am_in j pc = some (.iload i, len, r)) (hp : pc + len = pc') (h : ls[i]? = some (.int x)) (k : gG X j pc' ls (.int x :: st) m Q) : gG X j pc ls st m Q := by
  subst hp; exact g_step hI rfl rfl (by simp only [am_step, am_sA]; rw [h]) k
theorem g_iload_n {i : Fin 4} {x : Int32} (hI : am_in j pc = some (.iload_n i, len, r)) (hp : pc + len = pc') (h : ls[(i : Nat)]? = some (.int x)) (k : gG X j pc' ls (.int x :: st) m Q) : gG X j pc ls st m Q := by
  subst hp; exact g_step hI rfl rfl (by simp only [am_step, am_sA]; rw [h]) k
theorem g_lload {i : Nat} {x : Int64} (hI : am_in j pc = some (.lload i, len, r)) (hp : pc + len = pc') (h : ls[i]? = some (.long x)) (k : gG X j pc' ls (.long x :: st) m Q) : gG X j pc ls st m Q := by
  subst hp; exact g_step hI rfl rfl (by simp only [am_step, am_sA]; rw [h]) k
theorem g_lload_n {i : Fin 4} {x : Int64} (hI : am_in j pc = some (.lload_n i, len, r)) (hp : pc + len = pc') (h : ls[(i : Nat)]? = some (.long x)) (k : gG X j pc' ls (.long x :: st) m Q) : gG X j pc ls st m Q := by
  subst hp; exact g_step hI rfl rfl (by simp only [am_step, am_sA]; rw [h]) k
theorem g_aload {i : Nat} {x : Nat} (hI : am_in j pc = some (.aload i, len, r)) (hp : pc + len = pc') (h : ls[i]? = some (.ref x)) (k : gG X j pc' ls (.ref x :: st) m Q) : gG X j pc ls st m Q := by
  subst hp; exact g_step hI rfl rfl (by simp only [am_step, am_sA]; rw [h]) k
theorem g_aload_n {i : Fin 4} {x : Nat} (hI : am_in j pc = some (.aload_n i, len, r)) (hp : pc + len = pc') (h : ls[(i : Nat)]? = some (.ref x)) (k : gG X j pc' ls (.ref x :: st) m Q) : gG X j pc ls st m Q := by
  subst hp; exact g_step hI rfl rfl (by simp only [am_step, am_sA]; rw [h]) k
theorem g_istore {i : Nat} {x : Int32} (hI : am_in j pc = some (.istore i, len, r)) (hp : pc + len = pc') (h : am_s1 ls i (.int x) = some ls') (k : gG X j pc' ls' st m Q) : gG X j pc ls (.int x :: st) m Q := by
  subst hp; exact g_step hI rfl rfl (by simp only [am_step, am_sA, am_sB]; rw [h]; rfl) k
theorem g_istore_n {i : Fin 4} {x : Int32} (hI : am_in j pc = some (.istore_n i, len, r)) (hp : pc + len = pc') (h : am_s1 ls (i : Nat) (.int x) = some ls') (k : gG X j pc' ls' st m Q) : gG X j pc ls (.int x :: st) m Q := by
  subst hp; exact g_step hI rfl rfl (by simp only [am_step, am_sA, am_sB]; rw [h]; rfl) k
theorem g_astore_n {i : Fin 4} {x : Nat} (hI : am_in j pc = some (.astore_n i, len, r)) (hp : pc + len = pc') (h : am_s1 ls (i : Nat) (.ref x) = some ls') (k : gG X j pc' ls' st m Q) : gG X j pc ls (.ref x :: st) m Q := by
  subst hp; exact g_step hI rfl rfl (by simp only [am_step, am_sA, am_sB]; rw [h]; rfl) k
theorem g_lstore {i : Nat} {x : Int64} (hI : am_in j pc = some (.lstore i, len, r)) (hp : pc + len = pc') (h : am_s2 ls i (.long x) = some ls') (k : gG X j pc' ls' st m Q) : gG X j pc ls (.long x :: st) m Q := by
  subst hp; exact g_step hI rfl rfl (by simp only [am_step, am_sA, am_sB]; rw [h]; rfl) k
theorem g_lstore_n {i : Fin 4} {x : Int64} (hI : am_in j pc = some (.lstore_n i, len, r)) (hp : pc + len = pc') (h : am_s2 ls (i : Nat) (.long x) = some ls') (k : gG X j pc' ls' st m Q) : gG X j pc ls (.long x :: st) m Q := by
  subst hp; exact g_step hI rfl rfl (by simp only [am_step, am_sA, am_sB]; rw [h]; rfl) k
theorem g_iinc {i : Nat} {n : Int} {x v : Int32} (hI : am_in j pc = some (.iinc i n, len, r)) (hp : pc + len = pc') (h0 : ls[i]? = some (.int x)) (hv : x + Int32.ofInt n = v) (h : am_s1 ls i (.int v) = some ls') (k : gG X j pc' ls' st m Q) : gG X j pc ls st m Q := by
  subst hp; subst hv; exact g_step hI rfl rfl (by simp only [am_step, am_sA, am_sB]; rw [h0]; dsimp only; rw [h]; rfl) k
theorem g_iadd {x y : Int32} (hI : am_in j pc = some (.iadd, len, r)) (hp : pc + len = pc') (k : gG X j pc' ls (.int (x + y) :: st) m Q) : gG X j pc ls (.int y :: .int x :: st) m Q := by
  subst hp; exact g_step hI rfl rfl rfl k
theorem g_isub {x y : Int32} (hI : am_in j pc = some (.isub, len, r)) (hp : pc + len = pc') (k : gG X j pc' ls (.int (x - y) :: st) m Q) : gG X j pc ls (.int y :: .int x :: st) m Q := by
  subst hp; exact g_step hI rfl rfl rfl k
theorem g_imul {x y : Int32} (hI : am_in j pc = some (.imul, len, r)) (hp : pc + len = pc') (k : gG X j pc' ls (.int (x * y) :: st) m Q) : gG X j pc ls (.int y :: .int x :: st) m Q := by
  subst hp; exact g_step hI rfl rfl rfl k
theorem g_iand {x y : Int32} (hI : am_in j pc = some (.iand, len, r)) (hp : pc + len = pc') (k : gG X j pc' ls (.int (x &&& y) :: st) m Q) : gG X j pc ls (.int y :: .int x :: st) m Q := by
  subst hp; exact g_step hI rfl rfl rfl k
theorem g_ior {x y : Int32} (hI : am_in j pc = some (.ior, len, r)) (hp : pc + len = pc') (k : gG X j pc' ls (.int (x ||| y) :: st) m Q) : gG X j pc ls (.int y :: .int x :: st) m Q := by
  subst hp; exact g_step hI rfl rfl rfl k
theorem g_ixor {x y : Int32} (hI : am_in j pc = some (.ixor, len, r)) (hp : pc + len = pc') (k : gG X j pc' ls (.int (x ^^^ y) :: st) m Q) : gG X j pc ls (.int y :: .int x :: st) m Q := by
  subst hp; exact g_step hI rfl rfl rfl k
theorem g_ishl {x y : Int32} (hI : am_in j pc = some (.ishl, len, r)) (hp : pc + len = pc') (k : gG X j pc' ls (.int (x <<< (y &&& 31)) :: st) m Q) : gG X j pc ls (.int y :: .int x :: st) m Q := by
  subst hp; exact g_step hI rfl rfl rfl k
theorem g_ishr {x y : Int32} (hI : am_in j pc = some (.ishr, len, r)) (hp : pc + len = pc') (k : gG X j pc' ls (.int (x >>> (y &&& 31)) :: st) m Q) : gG X j pc ls (.int y :: .int x :: st) m Q := by
  subst hp; exact g_step hI rfl rfl rfl k
theorem g_iushr {x y : Int32} (hI : am_in j pc = some (.iushr, len, r)) (hp : pc + len = pc') (k : gG X j pc' ls (.int ((x.toUInt32 >>> (y.toUInt32 &&& Int32.toUInt32 31)).toInt32) :: st) m Q) : gG X j pc ls (.int y :: .int x :: st) m Q := by
  subst hp; exact g_step hI rfl rfl rfl k
theorem g_idiv {x y : Int32} (hI : am_in j pc = some (.idiv, len, r)) (hp : pc + len = pc') (hy : ¬ y = 0) (k : gG X j pc' ls (.int (x / y) :: st) m Q) : gG X j pc ls (.int y :: .int x :: st) m Q := by
  subst hp; exact g_step hI rfl rfl (by simp only [am_step, am_sA, am_sB, am_sC]; rw [if_neg hy]) k
theorem g_irem {x y : Int32} (hI : am_in j pc = some (.irem, len, r)) (hp : pc + len = pc') (hy : ¬ y = 0) (k : gG X j pc' ls (.int (x - x / y * y) :: st) m Q) : gG X j pc ls (.int y :: .int x :: st) m Q := by
  subst hp; exact g_step hI rfl rfl (by simp only [am_step, am_sA, am_sB, am_sC]; rw [if_neg hy]) k
theorem g_ladd {x y : Int64} (hI : am_in j pc = some (.ladd, len, r)) (hp : pc + len = pc') (k : gG X j pc' ls (.long (x + y) :: st) m Q) : gG X j pc ls (.long y :: .long x :: st) m Q := by
  subst hp; exact g_step hI rfl rfl rfl k
theorem g_lsub {x y : Int64} (hI : am_in j pc = some (.lsub, len, r)) (hp : pc + len = pc') (k : gG X j pc' ls (.long (x - y) :: st) m Q) : gG X j pc ls (.long y :: .long x :: st) m Q := by
  subst hp; exact g_step hI rfl rfl rfl k
theorem g_lmul {x y : Int64} (hI : am_in j pc = some (.lmul, len, r)) (hp : pc + len = pc') (k : gG X j pc' ls (.long (x * y) :: st) m Q) : gG X j pc ls (.long y :: .long x :: st) m Q := by
  subst hp; exact g_step hI rfl rfl rfl k
theorem g_land {x y : Int64} (hI : am_in j pc = some (.land, len, r)) (hp : pc + len = pc') (k : gG X j pc' ls (.long (x &&& y) :: st) m Q) : gG X j pc ls (.long y :: .long x :: st) m Q := by
  subst hp; exact g_step hI rfl rfl rfl k
theorem g_lor {x y : Int64} (hI : am_in j pc = some (.lor, len, r)) (hp : pc + len = pc') (k : gG X j pc' ls (.long (x ||| y) :: st) m Q) : gG X j pc ls (.long y :: .long x :: st) m Q := by
  subst hp; exact g_step hI rfl rfl rfl k
theorem g_ldiv {x y : Int64} (hI : am_in j pc = some (.ldiv, len, r)) (hp : pc + len = pc') (hy : ¬ y = 0) (k : gG X j pc' ls (.long (x / y) :: st) m Q) : gG X j pc ls (.long y :: .long x :: st) m Q := by
  subst hp; exact g_step hI rfl rfl (by simp only [am_step, am_sA, am_sB, am_sC, am_sD]; rw [if_neg hy]) k
theorem g_lrem {x y : Int64} (hI : am_in j pc = some (.lrem, len, r)) (hp : pc + len = pc') (hy : ¬ y = 0) (k : gG X j pc' ls (.long (x - x / y * y) :: st) m Q) : gG X j pc ls (.long y :: .long x :: st) m Q := by
  subst hp; exact g_step hI rfl rfl (by simp only [am_step, am_sA, am_sB, am_sC, am_sD]; rw [if_neg hy]) k
theorem g_lcmp {x y : Int64} (hI : am_in j pc = some (.lcmp, len, r)) (hp : pc + len = pc') (k : gG X j pc' ls (.int (lg_cmp x y) :: st) m Q) : gG X j pc ls (.long y :: .long x :: st) m Q := by
  subst hp; exact g_step hI rfl rfl rfl k
theorem g_lshl {x : Int64} {y : Int32} (hI : am_in j pc = some (.lshl, len, r)) (hp : pc + len = pc') (k : gG X j pc' ls (.long (x <<< (y.toInt64 &&& 63)) :: st) m Q) : gG X j pc ls (.int y :: .long x :: st) m Q := by
  subst hp; exact g_step hI rfl rfl rfl k
theorem g_lshr {x : Int64} {y : Int32} (hI : am_in j pc = some (.lshr, len, r)) (hp : pc + len = pc') (k : gG X j pc' ls (.long (x >>> (y.toInt64 &&& 63)) :: st) m Q) : gG X j pc ls (.int y :: .long x :: st) m Q := by
  subst hp; exact g_step hI rfl rfl rfl k
theorem g_i2l {x : Int32} (hI : am_in j pc = some (.i2l, len, r)) (hp : pc + len = pc') (k : gG X j pc' ls (.long x.toInt64 :: st) m Q) : gG X j pc ls (.int x :: st) m Q := by
  subst hp; exact g_step hI rfl rfl rfl k
theorem g_l2i {x : Int64} (hI : am_in j pc = some (.l2i, len, r)) (hp : pc + len = pc') (k : gG X j pc' ls (.int x.toInt32 :: st) m Q) : gG X j pc ls (.long x :: st) m Q := by
  subst hp; exact g_step hI rfl rfl rfl k
theorem g_dup {v : Value} (hI : am_in j pc = some (.dup, len, r)) (hp : pc + len = pc') (hv : v.category = 1) (k : gG X j pc' ls (v :: v :: st) m Q) : gG X j pc ls (v :: st) m Q := by
  subst hp; exact g_step hI rfl rfl (by simp only [am_step, am_sA, am_sB, am_sC, am_sD, am_sE]; cases v <;> first | rfl | cases hv) k
theorem g_pop {v : Value} (hI : am_in j pc = some (.pop, len, r)) (hp : pc + len = pc') (hv : v.category = 1) (k : gG X j pc' ls st m Q) : gG X j pc ls (v :: st) m Q := by
  subst hp; exact g_step hI rfl rfl (by simp only [am_step, am_sA, am_sB, am_sC, am_sD, am_sE]; cases v <;> first | rfl | cases hv) k
theorem g_dup2 {x : Int32} {y : Nat} (hI : am_in j pc = some (.dup2, len, r)) (hp : pc + len = pc') (k : gG X j pc' ls (.int x :: .ref y :: .int x :: .ref y :: st) m Q) : gG X j pc ls (.int x :: .ref y :: st) m Q := by
  subst hp; exact g_step hI rfl rfl rfl k
theorem g_goto {o : Int} (hI : am_in j pc = some (.goto o, len, r)) (ht : am_tg pc o = some pc') (k : gG X j pc' ls st m Q) : gG X j pc ls st m Q := by
  exact g_step hI rfl rfl (by simp only [am_step, am_sA, am_sB, am_sC, am_sD, am_sE, am_sF]; rw [ht]; rfl) k
theorem g_if_eq {x : Int32} {o : Int} {t : Nat} (hI : am_in j pc = some (.ifCond .eq o, len, r)) (hp : pc + len = pc') (ht : am_tg pc o = some t) (kt : x = 0 → gG X j t ls st m Q) (kf : ¬ x = 0 → gG X j pc' ls st m Q) : gG X j pc ls (.int x :: st) m Q := by
  subst hp
  by_cases h : x = 0
  · exact g_step hI rfl rfl (by
      have h1 : am_c1 .eq x = true := by simp only [am_c1, decide_eq_true_eq]; exact h
      simp only [am_step, am_sA, am_sB, am_sC, am_sD, am_sE, am_sF, ht, h1, if_true]) (kt h)
  · exact g_step hI rfl rfl (by
      have h1 : am_c1 .eq x = false := by simp only [am_c1]; exact decide_eq_false h
      simp [am_step, am_sA, am_sB, am_sC, am_sD, am_sE, am_sF, ht, h1]) (kf (h))
theorem g_if_ne {x : Int32} {o : Int} {t : Nat} (hI : am_in j pc = some (.ifCond .ne o, len, r)) (hp : pc + len = pc') (ht : am_tg pc o = some t) (kt : ¬ x = 0 → gG X j t ls st m Q) (kf : x = 0 → gG X j pc' ls st m Q) : gG X j pc ls (.int x :: st) m Q := by
  subst hp
  by_cases h : ¬ x = 0
  · exact g_step hI rfl rfl (by
      have h1 : am_c1 .ne x = true := by simp only [am_c1, decide_eq_true_eq]; exact h
      simp only [am_step, am_sA, am_sB, am_sC, am_sD, am_sE, am_sF, ht, h1, if_true]) (kt h)
  · exact g_step hI rfl rfl (by
      have h1 : am_c1 .ne x = false := by simp only [am_c1]; exact decide_eq_false h
      simp [am_step, am_sA, am_sB, am_sC, am_sD, am_sE, am_sF, ht, h1]) (kf (Classical.not_not.mp h))
theorem g_if_lt {x : Int32} {o : Int} {t : Nat} (hI : am_in j pc = some (.ifCond .lt o, len, r)) (hp : pc + len = pc') (ht : am_tg pc o = some t) (kt : x < 0 → gG X j t ls st m Q) (kf : ¬ x < 0 → gG X j pc' ls st m Q) : gG X j pc ls (.int x :: st) m Q := by
  subst hp
  by_cases h : x < 0
  · exact g_step hI rfl rfl (by
      have h1 : am_c1 .lt x = true := by simp only [am_c1, decide_eq_true_eq]; exact h
      simp only [am_step, am_sA, am_sB, am_sC, am_sD, am_sE, am_sF, ht, h1, if_true]) (kt h)
  · exact g_step hI rfl rfl (by
      have h1 : am_c1 .lt x = false := by simp only [am_c1]; exact decide_eq_false h
      simp [am_step, am_sA, am_sB, am_sC, am_sD, am_sE, am_sF, ht, h1]) (kf (h))
theorem g_if_ge {x : Int32} {o : Int} {t : Nat} (hI : am_in j pc = some (.ifCond .ge o, len, r)) (hp : pc + len = pc') (ht : am_tg pc o = some t) (kt : 0 ≤ x → gG X j t ls st m Q) (kf : ¬ 0 ≤ x → gG X j pc' ls st m Q) : gG X j pc ls (.int x :: st) m Q := by
  subst hp
  by_cases h : 0 ≤ x
  · exact g_step hI rfl rfl (by
      have h1 : am_c1 .ge x = true := by simp only [am_c1, decide_eq_true_eq]; exact h
      simp only [am_step, am_sA, am_sB, am_sC, am_sD, am_sE, am_sF, ht, h1, if_true]) (kt h)
  · exact g_step hI rfl rfl (by
      have h1 : am_c1 .ge x = false := by simp only [am_c1]; exact decide_eq_false h
      simp [am_step, am_sA, am_sB, am_sC, am_sD, am_sE, am_sF, ht, h1]) (kf (h))
theorem g_if_gt {x : Int32} {o : Int} {t : Nat} (hI : am_in j pc = some (.ifCond .gt o, len, r)) (hp : pc + len = pc') (ht : am_tg pc o = some t) (kt : 0 < x → gG X j t ls st m Q) (kf : ¬ 0 < x → gG X j pc' ls st m Q) : gG X j pc ls (.int x :: st) m Q := by
  subst hp
  by_cases h : 0 < x
  · exact g_step hI rfl rfl (by
      have h1 : am_c1 .gt x = true := by simp only [am_c1, decide_eq_true_eq]; exact h
      simp only [am_step, am_sA, am_sB, am_sC, am_sD, am_sE, am_sF, ht, h1, if_true]) (kt h)
  · exact g_step hI rfl rfl (by
      have h1 : am_c1 .gt x = false := by simp only [am_c1]; exact decide_eq_false h
      simp [am_step, am_sA, am_sB, am_sC, am_sD, am_sE, am_sF, ht, h1]) (kf (h))
theorem g_if_le {x : Int32} {o : Int} {t : Nat} (hI : am_in j pc = some (.ifCond .le o, len, r)) (hp : pc + len = pc') (ht : am_tg pc o = some t) (kt : x ≤ 0 → gG X j t ls st m Q) (kf : ¬ x ≤ 0 → gG X j pc' ls st m Q) : gG X j pc ls (.int x :: st) m Q := by
  subst hp
  by_cases h : x ≤ 0
  · exact g_step hI rfl rfl (by
      have h1 : am_c1 .le x = true := by simp only [am_c1, decide_eq_true_eq]; exact h
      simp only [am_step, am_sA, am_sB, am_sC, am_sD, am_sE, am_sF, ht, h1, if_true]) (kt h)
  · exact g_step hI rfl rfl (by
      have h1 : am_c1 .le x = false := by simp only [am_c1]; exact decide_eq_false h
      simp [am_step, am_sA, am_sB, am_sC, am_sD, am_sE, am_sF, ht, h1]) (kf (h))
theorem g_icmp_eq {x y : Int32} {o : Int} {t : Nat} (hI : am_in j pc = some (.if_icmp .eq o, len, r)) (hp : pc + len = pc') (ht : am_tg pc o = some t) (kt : x = y → gG X j t ls st m Q) (kf : ¬ x = y → gG X j pc' ls st m Q) : gG X j pc ls (.int y :: .int x :: st) m Q := by
  subst hp
  by_cases h : x = y
  · exact g_step hI rfl rfl (by
      have h1 : am_c2 .eq x y = true := by simp only [am_c2, decide_eq_true_eq]; exact h
      simp only [am_step, am_sA, am_sB, am_sC, am_sD, am_sE, am_sF, ht, h1, if_true]) (kt h)
  · exact g_step hI rfl rfl (by
      have h1 : am_c2 .eq x y = false := by simp only [am_c2]; exact decide_eq_false h
      simp [am_step, am_sA, am_sB, am_sC, am_sD, am_sE, am_sF, ht, h1]) (kf (h))
theorem g_icmp_ne {x y : Int32} {o : Int} {t : Nat} (hI : am_in j pc = some (.if_icmp .ne o, len, r)) (hp : pc + len = pc') (ht : am_tg pc o = some t) (kt : ¬ x = y → gG X j t ls st m Q) (kf : x = y → gG X j pc' ls st m Q) : gG X j pc ls (.int y :: .int x :: st) m Q := by
  subst hp
  by_cases h : ¬ x = y
  · exact g_step hI rfl rfl (by
      have h1 : am_c2 .ne x y = true := by simp only [am_c2, decide_eq_true_eq]; exact h
      simp only [am_step, am_sA, am_sB, am_sC, am_sD, am_sE, am_sF, ht, h1, if_true]) (kt h)
  · exact g_step hI rfl rfl (by
      have h1 : am_c2 .ne x y = false := by simp only [am_c2]; exact decide_eq_false h
      simp [am_step, am_sA, am_sB, am_sC, am_sD, am_sE, am_sF, ht, h1]) (kf (Classical.not_not.mp h))
theorem g_icmp_lt {x y : Int32} {o : Int} {t : Nat} (hI : am_in j pc = some (.if_icmp .lt o, len, r)) (hp : pc + len = pc') (ht : am_tg pc o = some t) (kt : x < y → gG X j t ls st m Q) (kf : ¬ x < y → gG X j pc' ls st m Q) : gG X j pc ls (.int y :: .int x :: st) m Q := by
  subst hp
  by_cases h : x < y
  · exact g_step hI rfl rfl (by
      have h1 : am_c2 .lt x y = true := by simp only [am_c2, decide_eq_true_eq]; exact h
      simp only [am_step, am_sA, am_sB, am_sC, am_sD, am_sE, am_sF, ht, h1, if_true]) (kt h)
  · exact g_step hI rfl rfl (by
      have h1 : am_c2 .lt x y = false := by simp only [am_c2]; exact decide_eq_false h
      simp [am_step, am_sA, am_sB, am_sC, am_sD, am_sE, am_sF, ht, h1]) (kf (h))
theorem g_icmp_ge {x y : Int32} {o : Int} {t : Nat} (hI : am_in j pc = some (.if_icmp .ge o, len, r)) (hp : pc + len = pc') (ht : am_tg pc o = some t) (kt : y ≤ x → gG X j t ls st m Q) (kf : ¬ y ≤ x → gG X j pc' ls st m Q) : gG X j pc ls (.int y :: .int x :: st) m Q := by
  subst hp
  by_cases h : y ≤ x
  · exact g_step hI rfl rfl (by
      have h1 : am_c2 .ge x y = true := by simp only [am_c2, decide_eq_true_eq]; exact h
      simp only [am_step, am_sA, am_sB, am_sC, am_sD, am_sE, am_sF, ht, h1, if_true]) (kt h)
  · exact g_step hI rfl rfl (by
      have h1 : am_c2 .ge x y = false := by simp only [am_c2]; exact decide_eq_false h
      simp [am_step, am_sA, am_sB, am_sC, am_sD, am_sE, am_sF, ht, h1]) (kf (h))
theorem g_icmp_gt {x y : Int32} {o : Int} {t : Nat} (hI : am_in j pc = some (.if_icmp .gt o, len, r)) (hp : pc + len = pc') (ht : am_tg pc o = some t) (kt : y < x → gG X j t ls st m Q) (kf : ¬ y < x → gG X j pc' ls st m Q) : gG X j pc ls (.int y :: .int x :: st) m Q := by
  subst hp
  by_cases h : y < x
  · exact g_step hI rfl rfl (by
      have h1 : am_c2 .gt x y = true := by simp only [am_c2, decide_eq_true_eq]; exact h
      simp only [am_step, am_sA, am_sB, am_sC, am_sD, am_sE, am_sF, ht, h1, if_true]) (kt h)
  · exact g_step hI rfl rfl (by
      have h1 : am_c2 .gt x y = false := by simp only [am_c2]; exact decide_eq_false h
      simp [am_step, am_sA, am_sB, am_sC, am_sD, am_sE, am_sF, ht, h1]) (kf (h))
theorem g_icmp_le {x y : Int32} {o : Int} {t : Nat} (hI : am_in j pc = some (.if_icmp .le o, len, r)) (hp : pc + len = pc') (ht : am_tg pc o = some t) (kt : x ≤ y → gG X j t ls st m Q) (kf : ¬ x ≤ y → gG X j pc' ls st m Q) : gG X j pc ls (.int y :: .int x :: st) m Q := by
  subst hp
  by_cases h : x ≤ y
  · exact g_step hI rfl rfl (by
      have h1 : am_c2 .le x y = true := by simp only [am_c2, decide_eq_true_eq]; exact h
      simp only [am_step, am_sA, am_sB, am_sC, am_sD, am_sE, am_sF, ht, h1, if_true]) (kt h)
  · exact g_step hI rfl rfl (by
      have h1 : am_c2 .le x y = false := by simp only [am_c2]; exact decide_eq_false h
      simp [am_step, am_sA, am_sB, am_sC, am_sD, am_sE, am_sF, ht, h1]) (kf (h))
theorem g_tabO {x : Int32} {d lo hi : Int} {offs : Array Int} (hI : am_in j pc = some (.tableswitch d lo hi offs, len, r)) (h : x.toInt < lo ∨ hi < x.toInt) (ht : am_tg pc d = some pc') (k : gG X j pc' ls st m Q) : gG X j pc ls (.int x :: st) m Q := by
  exact g_step hI rfl rfl (by
      simp [am_step, am_sA, am_sB, am_sC, am_sD, am_sE, am_sF, h, ht, am_j]) k
theorem g_tabI {x : Int32} {d lo hi o : Int} {offs : Array Int} (hI : am_in j pc = some (.tableswitch d lo hi offs, len, r)) (h : ¬ (x.toInt < lo ∨ hi < x.toInt)) (ho : offs[(x.toInt - lo).toNat]? = some o) (ht : am_tg pc o = some pc') (k : gG X j pc' ls st m Q) : gG X j pc ls (.int x :: st) m Q := by
  exact g_step hI rfl rfl (by
      simp only [am_step, am_sA, am_sB, am_sC, am_sD, am_sE, am_sF, if_neg h, ho, ht, am_j]; rfl) k
theorem g_look {x : Int32} {d : Int} {ps : Array (Int × Int)} (hI : am_in j pc = some (.lookupswitch d ps, len, r)) (hp : (ps.toList.zip (ps.toList.drop 1)).all (fun (a, next) => a.1 < next.1) = true) (ht : am_tg pc (Op.lookupswitch.offset ps.toList d x.toInt) = some pc') (k : gG X j pc' ls st m Q) : gG X j pc ls (.int x :: st) m Q := by
  exact g_step hI rfl rfl (by
      simp only [am_step, am_sA, am_sB, am_sC, am_sD, am_sE, am_sF, if_pos hp, ht, am_j]; rfl) k
end GG

