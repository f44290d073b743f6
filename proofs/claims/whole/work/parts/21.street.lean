/-! STREET: pure words -/
def forceV (s : aStr) (k : Nat) (c : Int32) : Int32 := if 0 ≤ sH s k - 7 * c then sH s k - 7 * c else 0
def traitV (s : aStr) (k t : Nat) : Int32 := match t with
  | 0 => sH s k
  | 1 => sC s k
  | 2 => sS s k
  | 3 => sO s k
  | _ => sI s k
def bit (k : Nat) : Int32 := 1 <<< (nI k &&& 31)
def setS (s : aStr) (k : Nat) (h c o : Int32) : aStr := uI (uO (uS (uC (uH s k h) k c) k 1) k o) k (bit k)
def brokenB (s : aStr) : Int32 := fN (fun k a => if sC s k = 3 then a ||| bit k else a) 10 0
def nutsB (s : aStr) (c : Int32) : Int32 := fN (fun k a => if sO s k = c ∧ ¬ sC s k = 3 then a ||| bit k else a) 10 0
def scoresB (s : aStr) (c : Int32) : Int32 := fN (fun k a => if sO s k = c ∧ ¬ sC s k = 3 then a + sS s k else a) 10 0
def bestStep (s : aStr) (k : Nat) (a : Int32 × Int32) : Int32 × Int32 := if ¬ sC s k = 3 ∧ ¬ sS s k ≤ a.1 then (sS s k, nI k) else a
def bestB (s : aStr) : Int32 × Int32 := fN (bestStep s) 10 (0, -6)
def hitOf (s : aStr) (a b : Nat) : Nat := if forceV s b (sC s b) ≤ forceV s a (sC s a) then b else a
def othOf (s : aStr) (a b : Nat) : Nat := if forceV s b (sC s b) ≤ forceV s a (sC s a) then a else b
def hurt (s : aStr) (k : Nat) : aStr := uC s k (sC s k + 1)
def eat (s : aStr) (w k : Nat) : aStr := uI (uS s w (sS s w + sS s k)) w (sI s w ||| sI s k)
def strikeS (s : aStr) (a b : Nat) : aStr × Int32 := if sC (hurt s (hitOf s a b)) (hitOf s a b) = 3 then (eat (hurt s (hitOf s a b)) (othOf s a b) (hitOf s a b), nI (hitOf s a b)) else (hurt s (hitOf s a b), -6)
def minV (a b : Int32) : Int32 := if b < a then b else a
def bakeS1 (s : aStr) (k : Nat) : aStr := uH (if 60 ≤ sH s k then hurt s k else s) k (minV 99 (sH s k + 10))
def bakeS (s : aStr) (k : Nat) : aStr × Int32 := (bakeS1 s k, if sC (bakeS1 s k) k = 3 then nI k else -6)
def dh (c h : Int32) : Int32 := if c = 3 then h else if 99 ≤ h then h else h + 1
def dayP (s : aStr) (i : Nat) : aStr := (fun k => if k < i then dh (sC s k) (sH s k) else sH s k, sC s, sS s, sO s, sI s, sD s)
def dayS (s : aStr) : aStr := uD (dayP s 10) (sD s + 1)
def whyS (s : aStr) (kd a b : Nat) : Int32 := if kd = 3 then (if sD s < 99 then 0 else 5) else if sC s a = 3 ∨ (kd = 0 ∧ sC s b = 3) then 1 else if kd = 0 then (if sO s a = sO s b then 2 else 0) else if kd = 1 then (if sH s a < 99 then 0 else 3) else if sO s a = nI b then 4 else 0
def actS (s : aStr) (kd a b : Nat) : aStr × Int32 := match kd with
  | 0 => strikeS s a b
  | 1 => bakeS s a
  | 2 => (uO s a (nI b), -6)
  | _ => (dayS s, -6)
theorem dayP_0 (s : aStr) : dayP s 0 = s := by
  unfold dayP
  simp [sH, sC, sS, sO, sI, sD]
theorem upd_self (f : Nat → Int32) (k : Nat) : upd f k (f k) = f := by
  funext i
  unfold upd
  by_cases h : i = k
  · simp [h]
  · simp [h]
theorem uH_self (s : aStr) (k : Nat) : uH s k (sH s k) = s := by
  unfold uH
  rw [upd_self]
  rfl
theorem dayP_s (s : aStr) (i : Nat) : dayP s (i + 1) = uH (dayP s i) i (dh (sC s i) (sH s i)) := by
  unfold dayP uH
  simp only [sH, sC, sS, sO, sI, sD, Prod.mk.injEq, and_true]
  funext k
  unfold upd
  by_cases h : k = i
  · subst h; simp
  · by_cases h2 : k < i
    · simp [h, h2, show k < i + 1 by omega]
    · simp [h, h2, show ¬ k < i + 1 by omega]
theorem dayP_C (s : aStr) (i : Nat) : sC (dayP s i) = sC s := rfl
theorem dayP_D (s : aStr) (i : Nat) : sD (dayP s i) = sD s := rfl
theorem dayP_H (s : aStr) (i : Nat) : sH (dayP s i) i = sH s i := by
  show (if i < i then _ else sH s i) = _
  simp
section C2
variable {X : aX} {m : aMem} {K : Int32 → aMem → Prop}
theorem Fr.s {lo hi o i : Nat} {m m1 : aMem} {v : Int32} (h : Fr lo hi m m1) (h1 : lo ≤ o) (h2 : o < hi) : Fr lo hi m (am_wi m1.1 o i v, m1.2) := h.tr (Fr.wi h1 h2)

theorem c_forceOf {p k : Nat} {c : Int32} (hp : isS p) (hk : k < 10) (h : K (forceV (stAt m p) k c) m) : gCi X 63 [.ref p, .int (nI k), .int c] m K := by
  refine g_inI rfl ?_
  refine g_aload_n (pc' := 1) rfl rfl rfl ?_
  refine g_getr (pc' := 4) rfl rfl (f_8_0 hp) ?_
  refine g_iload_n (pc' := 5) rfl rfl rfl ?_
  refine g_iald (pc' := 6) rfl rfl (a_S1 hp) hk rfl ?_
  refine g_vi (y := sH (stAt m p) k) (st_H hk) ?_
  refine g_bipush (pc' := 8) (v := 7) rfl rfl (by decide) ?_
  refine g_iload_n (pc' := 9) rfl rfl rfl ?_
  refine g_imul (pc' := 10) rfl rfl ?_
  refine g_isub (pc' := 11) rfl rfl ?_
  refine g_topi (fun f hf => ?_)
  refine g_istore_n (pc' := 12) rfl rfl rfl ?_
  refine g_iload_n (pc' := 13) rfl rfl rfl ?_
  refine g_if_ge (pc' := 16) (t := 20) rfl rfl rfl (fun c_13 => ?_) (fun c_13 => ?_)
  · refine g_iload_n (pc' := 21) rfl rfl rfl ?_
    exact g_ireturn rfl rfl (g_eq h (by unfold forceV; rw [← hf, if_pos c_13]) rfl)
  · refine g_iconst (pc' := 17) (v := 0) rfl rfl (by decide) ?_
    refine g_goto (pc' := 21) rfl rfl ?_
    exact g_ireturn rfl rfl (g_eq h (by unfold forceV; rw [← hf, if_neg c_13]) rfl)
theorem c_traitOf {p k t : Nat} (hp : isS p) (hk : k < 10) (ht : t < 5) (h : K (traitV (stAt m p) k t) m) : gCi X 51 [.ref p, .int (nI k), .int (nI t)] m K := by
  refine g_inI rfl ?_
  refine g_iload_n (pc' := 1) rfl rfl rfl ?_
  rcases (show t = 0 ∨ t = 1 ∨ t = 2 ∨ t = 3 ∨ t = 4 by omega) with rfl | rfl | rfl | rfl | rfl
  · refine g_tabI (pc' := 32) rfl (by decide) rfl rfl ?_
    refine g_aload_n (pc' := 33) rfl rfl rfl ?_
    refine g_getr (pc' := 36) rfl rfl (f_8_0 hp) ?_
    refine g_iload_n (pc' := 37) rfl rfl rfl ?_
    refine g_iald (pc' := 38) rfl rfl (a_S1 hp) hk rfl ?_
    exact g_ireturn rfl rfl (g_eq h (st_H hk) rfl)
  · refine g_tabI (pc' := 39) rfl (by decide) rfl rfl ?_
    refine g_aload_n (pc' := 40) rfl rfl rfl ?_
    refine g_getr (pc' := 43) rfl rfl (f_8_1 hp) ?_
    refine g_iload_n (pc' := 44) rfl rfl rfl ?_
    refine g_iald (pc' := 45) rfl rfl (a_S2 hp) hk rfl ?_
    exact g_ireturn rfl rfl (g_eq h (st_C hk) rfl)
  · refine g_tabI (pc' := 46) rfl (by decide) rfl rfl ?_
    refine g_aload_n (pc' := 47) rfl rfl rfl ?_
    refine g_getr (pc' := 50) rfl rfl (f_8_2 hp) ?_
    refine g_iload_n (pc' := 51) rfl rfl rfl ?_
    refine g_iald (pc' := 52) rfl rfl (a_S3 hp) hk rfl ?_
    exact g_ireturn rfl rfl (g_eq h (st_S hk) rfl)
  · refine g_tabI (pc' := 53) rfl (by decide) rfl rfl ?_
    refine g_aload_n (pc' := 54) rfl rfl rfl ?_
    refine g_getr (pc' := 57) rfl rfl (f_8_3 hp) ?_
    refine g_iload_n (pc' := 58) rfl rfl rfl ?_
    refine g_iald (pc' := 59) rfl rfl (a_S4 hp) hk rfl ?_
    exact g_ireturn rfl rfl (g_eq h (st_O hk) rfl)
  · refine g_tabO (pc' := 60) rfl (by decide) rfl ?_
    refine g_aload_n (pc' := 61) rfl rfl rfl ?_
    refine g_getr (pc' := 64) rfl rfl (f_8_4 hp) ?_
    refine g_iload_n (pc' := 65) rfl rfl rfl ?_
    refine g_iald (pc' := 66) rfl rfl (a_S5 hp) hk rfl ?_
    exact g_ireturn rfl rfl (g_eq h (st_I hk) rfl)
theorem c_setOne {p k : Nat} {hd c o : Int32} {K : aMem → Prop} (hp : isS p) (hk : k < 10) (h : ∀ m', Fr p (p + 6) m m' → stAt m' p = setS (stAt m p) k hd c o → K m') : gCv X 49 [.ref p, .int (nI k), .int hd, .int c, .int o] m K := by
  refine g_inV rfl ?_
  refine g_aload_n (pc' := 1) rfl rfl rfl ?_
  refine g_getr (pc' := 4) rfl rfl (f_8_0 hp) ?_
  refine g_iload_n (pc' := 5) rfl rfl rfl ?_
  refine g_iload_n (pc' := 6) rfl rfl rfl ?_
  refine g_iast (pc' := 7) rfl rfl (a_S1 hp) hk rfl ?_
  refine g_aload_n (pc' := 8) rfl rfl rfl ?_
  refine g_getr (pc' := 11) rfl rfl (f_8_1 hp) ?_
  refine g_iload_n (pc' := 12) rfl rfl rfl ?_
  refine g_iload_n (pc' := 13) rfl rfl rfl ?_
  refine g_iast (pc' := 14) rfl rfl (a_S2 hp) hk rfl ?_
  refine g_aload_n (pc' := 15) rfl rfl rfl ?_
  refine g_getr (pc' := 18) rfl rfl (f_8_2 hp) ?_
  refine g_iload_n (pc' := 19) rfl rfl rfl ?_
  refine g_iconst (pc' := 20) (v := 1) rfl rfl (by decide) ?_
  refine g_iast (pc' := 21) rfl rfl (a_S3 hp) hk rfl ?_
  refine g_aload_n (pc' := 22) rfl rfl rfl ?_
  refine g_getr (pc' := 25) rfl rfl (f_8_3 hp) ?_
  refine g_iload_n (pc' := 26) rfl rfl rfl ?_
  refine g_iload (pc' := 28) rfl rfl rfl ?_
  refine g_iast (pc' := 29) rfl rfl (a_S4 hp) hk rfl ?_
  refine g_aload_n (pc' := 30) rfl rfl rfl ?_
  refine g_getr (pc' := 33) rfl rfl (f_8_4 hp) ?_
  refine g_iload_n (pc' := 34) rfl rfl rfl ?_
  refine g_iconst (pc' := 35) (v := 1) rfl rfl (by decide) ?_
  refine g_iload_n (pc' := 36) rfl rfl rfl ?_
  refine g_ishl (pc' := 37) rfl rfl ?_
  refine g_iast (pc' := 38) rfl rfl (a_S5 hp) hk rfl ?_
  exact g_return rfl rfl (h _ (((((Fr.rf.s (by omega) (by omega)).s (by omega) (by omega)).s (by omega) (by omega)).s (by omega) (by omega)).s (by omega) (by omega)) (by rw [st_wI hk, st_wO hk, st_wS hk, st_wC hk, st_wH hk]; rfl))
theorem c_brokenNuts {p : Nat} (hp : isS p) (h : K (brokenB (stAt m p)) m) : gCi X 53 [.ref p] m K := by
  refine g_inI rfl ?_
  have loop : ∀ (d i : Nat) (acc : Int32), i + d = 10 → acc = fN (fun k a => if sC (stAt m p) k = 3 then a ||| bit k else a) i 0 → gG X 53 4 [.ref p, .int acc, .int (nI i)] [] m (fun r m' => ∃ v, r = some (.int v) ∧ K v m') := by
    intro d
    induction d with
    | zero =>
      intro i acc hd ha
      have hi : i = 10 := by omega
      subst hi
      refine g_iload_n (pc' := 5) rfl rfl rfl ?_
      refine g_bipush (pc' := 7) (v := 10) rfl rfl (by decide) ?_
      refine g_icmp_ge (pc' := 10) (t := 30) rfl rfl rfl (fun c_7 => ?_) (fun c_7 => absurd (by decide) c_7)
      refine g_iload_n (pc' := 31) rfl rfl rfl ?_
      exact g_ireturn rfl rfl (g_eq h ha rfl)
    | succ d ih =>
      intro i acc hd ha
      have hlt : i < 10 := by omega
      refine g_iload_n (pc' := 5) rfl rfl rfl ?_
      refine g_bipush (pc' := 7) (v := 10) rfl rfl (by decide) ?_
      refine g_icmp_ge (pc' := 10) (t := 30) rfl rfl rfl (fun c_7 => absurd c_7 (nI_ge (b := 10) hlt (by decide))) (fun c_7 => ?_)
      refine g_aload_n (pc' := 11) rfl rfl rfl ?_
      refine g_iload_n (pc' := 12) rfl rfl rfl ?_
      refine g_calli (pc' := 15) rfl rfl rfl rfl (Or.inr (rc_S hp)) ?_
      refine c_isBroken hp hlt (fun q => ?_) (fun q => ?_)
      · refine g_if_eq (pc' := 18) (t := 24) rfl rfl rfl (fun c => absurd c (by decide)) (fun _ => ?_)
        refine g_iload_n (pc' := 19) rfl rfl rfl ?_
        refine g_iconst (pc' := 20) (v := 1) rfl rfl (by decide) ?_
        refine g_iload_n (pc' := 21) rfl rfl rfl ?_
        refine g_ishl (pc' := 22) rfl rfl ?_
        refine g_ior (pc' := 23) rfl rfl ?_
        refine g_istore_n (pc' := 24) rfl rfl rfl ?_
        refine g_iinc (pc' := 27) (v := nI (i + 1)) rfl rfl rfl (nI_1 i) rfl ?_
        refine g_goto (pc' := 4) rfl rfl ?_
        exact ih (i + 1) _ (by omega) (by rw [ha]; show _ = if _ then _ else _; rw [if_pos q]; rfl)
      · refine g_if_eq (pc' := 18) (t := 24) rfl rfl rfl (fun _ => ?_) (fun c => absurd c (by decide))
        refine g_iinc (pc' := 27) (v := nI (i + 1)) rfl rfl rfl (nI_1 i) rfl ?_
        refine g_goto (pc' := 4) rfl rfl ?_
        exact ih (i + 1) _ (by omega) (by rw [ha]; show _ = if _ then _ else _; rw [if_neg q])
  refine g_iconst (pc' := 1) (v := 0) rfl rfl (by decide) ?_
  refine g_istore_n (pc' := 2) rfl rfl rfl ?_
  refine g_iconst (pc' := 3) (v := 0) rfl rfl (by decide) ?_
  refine g_istore_n (pc' := 4) rfl rfl rfl ?_
  exact loop 10 0 0 rfl rfl
theorem c_nutsOfChild {p : Nat} {c : Int32} (hp : isS p) (h : K (nutsB (stAt m p) c) m) : gCi X 54 [.ref p, .int c] m K := by
  refine g_inI rfl ?_
  have loop : ∀ (d i : Nat) (acc : Int32), i + d = 10 → acc = fN (fun k a => if sO (stAt m p) k = c ∧ ¬ sC (stAt m p) k = 3 then a ||| bit k else a) i 0 → gG X 54 4 [.ref p, .int c, .int acc, .int (nI i)] [] m (fun r m' => ∃ v, r = some (.int v) ∧ K v m') := by
    intro d
    induction d with
    | zero =>
      intro i acc hd ha
      have hi : i = 10 := by omega
      subst hi
      refine g_iload_n (pc' := 5) rfl rfl rfl ?_
      refine g_bipush (pc' := 7) (v := 10) rfl rfl (by decide) ?_
      refine g_icmp_ge (pc' := 10) (t := 40) rfl rfl rfl (fun c_7 => ?_) (fun c_7 => absurd (by decide) c_7)
      refine g_iload_n (pc' := 41) rfl rfl rfl ?_
      exact g_ireturn rfl rfl (g_eq h ha rfl)
    | succ d ih =>
      intro i acc hd ha
      have hlt : i < 10 := by omega
      refine g_iload_n (pc' := 5) rfl rfl rfl ?_
      refine g_bipush (pc' := 7) (v := 10) rfl rfl (by decide) ?_
      refine g_icmp_ge (pc' := 10) (t := 40) rfl rfl rfl (fun c_7 => absurd c_7 (nI_ge (b := 10) hlt (by decide))) (fun c_7 => ?_)
      refine g_aload_n (pc' := 11) rfl rfl rfl ?_
      refine g_getr (pc' := 14) rfl rfl (f_8_3 hp) ?_
      refine g_iload_n (pc' := 15) rfl rfl rfl ?_
      refine g_iald (pc' := 16) rfl rfl (a_S4 hp) hlt rfl ?_
      refine g_vi (y := sO (stAt m p) i) (st_O hlt) ?_
      refine g_iload_n (pc' := 17) rfl rfl rfl ?_
      refine g_icmp_ne (pc' := 20) (t := 34) rfl rfl rfl (fun c_17 => ?_) (fun c_17 => ?_)
      · refine g_iinc (pc' := 37) (v := nI (i + 1)) rfl rfl rfl (nI_1 i) rfl ?_
        refine g_goto (pc' := 4) rfl rfl ?_
        exact ih (i + 1) _ (by omega) (by rw [ha]; show _ = if _ then _ else _; rw [if_neg (fun z => c_17 z.1)])
      · refine g_aload_n (pc' := 21) rfl rfl rfl ?_
        refine g_iload_n (pc' := 22) rfl rfl rfl ?_
        refine g_calli (pc' := 25) rfl rfl rfl rfl (Or.inr (rc_S hp)) ?_
        refine c_isBroken hp hlt (fun q => ?_) (fun q => ?_)
        · refine g_if_ne (pc' := 28) (t := 34) rfl rfl rfl (fun _ => ?_) (fun c => absurd c (by decide))
          refine g_iinc (pc' := 37) (v := nI (i + 1)) rfl rfl rfl (nI_1 i) rfl ?_
          refine g_goto (pc' := 4) rfl rfl ?_
          exact ih (i + 1) _ (by omega) (by rw [ha]; show _ = if _ then _ else _; rw [if_neg (fun z => z.2 q)])
        · refine g_if_ne (pc' := 28) (t := 34) rfl rfl rfl (fun c => absurd c (by decide)) (fun _ => ?_)
          refine g_iload_n (pc' := 29) rfl rfl rfl ?_
          refine g_iconst (pc' := 30) (v := 1) rfl rfl (by decide) ?_
          refine g_iload_n (pc' := 31) rfl rfl rfl ?_
          refine g_ishl (pc' := 32) rfl rfl ?_
          refine g_ior (pc' := 33) rfl rfl ?_
          refine g_istore_n (pc' := 34) rfl rfl rfl ?_
          refine g_iinc (pc' := 37) (v := nI (i + 1)) rfl rfl rfl (nI_1 i) rfl ?_
          refine g_goto (pc' := 4) rfl rfl ?_
          exact ih (i + 1) _ (by omega) (by rw [ha]; show _ = if _ then _ else _; rw [if_pos ⟨c_17, q⟩]; rfl)
  refine g_iconst (pc' := 1) (v := 0) rfl rfl (by decide) ?_
  refine g_istore_n (pc' := 2) rfl rfl rfl ?_
  refine g_iconst (pc' := 3) (v := 0) rfl rfl (by decide) ?_
  refine g_istore_n (pc' := 4) rfl rfl rfl ?_
  exact loop 10 0 0 rfl rfl
theorem c_scoresOfChild {p : Nat} {c : Int32} (hp : isS p) (h : K (scoresB (stAt m p) c) m) : gCi X 55 [.ref p, .int c] m K := by
  refine g_inI rfl ?_
  have loop : ∀ (d i : Nat) (acc : Int32), i + d = 10 → acc = fN (fun k a => if sO (stAt m p) k = c ∧ ¬ sC (stAt m p) k = 3 then a + sS (stAt m p) k else a) i 0 → gG X 55 4 [.ref p, .int c, .int acc, .int (nI i)] [] m (fun r m' => ∃ v, r = some (.int v) ∧ K v m') := by
    intro d
    induction d with
    | zero =>
      intro i acc hd ha
      have hi : i = 10 := by omega
      subst hi
      refine g_iload_n (pc' := 5) rfl rfl rfl ?_
      refine g_bipush (pc' := 7) (v := 10) rfl rfl (by decide) ?_
      refine g_icmp_ge (pc' := 10) (t := 43) rfl rfl rfl (fun c_7 => ?_) (fun c_7 => absurd (by decide) c_7)
      refine g_iload_n (pc' := 44) rfl rfl rfl ?_
      exact g_ireturn rfl rfl (g_eq h ha rfl)
    | succ d ih =>
      intro i acc hd ha
      have hlt : i < 10 := by omega
      refine g_iload_n (pc' := 5) rfl rfl rfl ?_
      refine g_bipush (pc' := 7) (v := 10) rfl rfl (by decide) ?_
      refine g_icmp_ge (pc' := 10) (t := 43) rfl rfl rfl (fun c_7 => absurd c_7 (nI_ge (b := 10) hlt (by decide))) (fun c_7 => ?_)
      refine g_aload_n (pc' := 11) rfl rfl rfl ?_
      refine g_getr (pc' := 14) rfl rfl (f_8_3 hp) ?_
      refine g_iload_n (pc' := 15) rfl rfl rfl ?_
      refine g_iald (pc' := 16) rfl rfl (a_S4 hp) hlt rfl ?_
      refine g_vi (y := sO (stAt m p) i) (st_O hlt) ?_
      refine g_iload_n (pc' := 17) rfl rfl rfl ?_
      refine g_icmp_ne (pc' := 20) (t := 37) rfl rfl rfl (fun c_17 => ?_) (fun c_17 => ?_)
      · refine g_iinc (pc' := 40) (v := nI (i + 1)) rfl rfl rfl (nI_1 i) rfl ?_
        refine g_goto (pc' := 4) rfl rfl ?_
        exact ih (i + 1) _ (by omega) (by rw [ha]; show _ = if _ then _ else _; rw [if_neg (fun z => c_17 z.1)])
      · refine g_aload_n (pc' := 21) rfl rfl rfl ?_
        refine g_iload_n (pc' := 22) rfl rfl rfl ?_
        refine g_calli (pc' := 25) rfl rfl rfl rfl (Or.inr (rc_S hp)) ?_
        refine c_isBroken hp hlt (fun q => ?_) (fun q => ?_)
        · refine g_if_ne (pc' := 28) (t := 37) rfl rfl rfl (fun _ => ?_) (fun c => absurd c (by decide))
          refine g_iinc (pc' := 40) (v := nI (i + 1)) rfl rfl rfl (nI_1 i) rfl ?_
          refine g_goto (pc' := 4) rfl rfl ?_
          exact ih (i + 1) _ (by omega) (by rw [ha]; show _ = if _ then _ else _; rw [if_neg (fun z => z.2 q)])
        · refine g_if_ne (pc' := 28) (t := 37) rfl rfl rfl (fun c => absurd c (by decide)) (fun _ => ?_)
          refine g_iload_n (pc' := 29) rfl rfl rfl ?_
          refine g_aload_n (pc' := 30) rfl rfl rfl ?_
          refine g_getr (pc' := 33) rfl rfl (f_8_2 hp) ?_
          refine g_iload_n (pc' := 34) rfl rfl rfl ?_
          refine g_iald (pc' := 35) rfl rfl (a_S3 hp) hlt rfl ?_
          refine g_vi (y := sS (stAt m p) i) (st_S hlt) ?_
          refine g_iadd (pc' := 36) rfl rfl ?_
          refine g_istore_n (pc' := 37) rfl rfl rfl ?_
          refine g_iinc (pc' := 40) (v := nI (i + 1)) rfl rfl rfl (nI_1 i) rfl ?_
          refine g_goto (pc' := 4) rfl rfl ?_
          exact ih (i + 1) _ (by omega) (by rw [ha]; show _ = if _ then _ else _; rw [if_pos ⟨c_17, q⟩])
  refine g_iconst (pc' := 1) (v := 0) rfl rfl (by decide) ?_
  refine g_istore_n (pc' := 2) rfl rfl rfl ?_
  refine g_iconst (pc' := 3) (v := 0) rfl rfl (by decide) ?_
  refine g_istore_n (pc' := 4) rfl rfl rfl ?_
  exact loop 10 0 0 rfl rfl
theorem c_nutOfMostScore {p : Nat} (hp : isS p) (h : K (bestB (stAt m p)).2 m) : gCi X 56 [.ref p] m K := by
  refine g_inI rfl ?_
  have loop : ∀ (d i : Nat) (mo w : Int32), i + d = 10 → (mo, w) = fN (bestStep (stAt m p)) i (0, -6) → gG X 56 7 [.ref p, .int mo, .int w, .int (nI i)] [] m (fun r m' => ∃ v, r = some (.int v) ∧ K v m') := by
    intro d
    induction d with
    | zero =>
      intro i mo w hd ha
      have hi : i = 10 := by omega
      subst hi
      refine g_iload_n (pc' := 8) rfl rfl rfl ?_
      refine g_bipush (pc' := 10) (v := 10) rfl rfl (by decide) ?_
      refine g_icmp_ge (pc' := 13) (t := 46) rfl rfl rfl (fun c_10 => ?_) (fun c_10 => absurd (by decide) c_10)
      refine g_iload_n (pc' := 47) rfl rfl rfl ?_
      exact g_ireturn rfl rfl (g_eq h (by unfold bestB; rw [← ha]) rfl)
    | succ d ih =>
      intro i mo w hd ha
      have hlt : i < 10 := by omega
      refine g_iload_n (pc' := 8) rfl rfl rfl ?_
      refine g_bipush (pc' := 10) (v := 10) rfl rfl (by decide) ?_
      refine g_icmp_ge (pc' := 13) (t := 46) rfl rfl rfl (fun c_10 => absurd c_10 (nI_ge (b := 10) hlt (by decide))) (fun c_10 => ?_)
      refine g_aload_n (pc' := 14) rfl rfl rfl ?_
      refine g_iload_n (pc' := 15) rfl rfl rfl ?_
      refine g_calli (pc' := 18) rfl rfl rfl rfl (Or.inr (rc_S hp)) ?_
      refine c_isBroken hp hlt (fun q => ?_) (fun q => ?_)
      · refine g_if_ne (pc' := 21) (t := 40) rfl rfl rfl (fun _ => ?_) (fun c => absurd c (by decide))
        refine g_iinc (pc' := 43) (v := nI (i + 1)) rfl rfl rfl (nI_1 i) rfl ?_
        refine g_goto (pc' := 7) rfl rfl ?_
        exact ih (i + 1) _ _ (by omega) (by unfold fN; rw [← ha]; unfold bestStep; rw [if_neg (fun z => z.1 q)])
      · refine g_if_ne (pc' := 21) (t := 40) rfl rfl rfl (fun c => absurd c (by decide)) (fun _ => ?_)
        refine g_aload_n (pc' := 22) rfl rfl rfl ?_
        refine g_getr (pc' := 25) rfl rfl (f_8_2 hp) ?_
        refine g_iload_n (pc' := 26) rfl rfl rfl ?_
        refine g_iald (pc' := 27) rfl rfl (a_S3 hp) hlt rfl ?_
        refine g_vi (y := sS (stAt m p) i) (st_S hlt) ?_
        refine g_iload_n (pc' := 28) rfl rfl rfl ?_
        refine g_icmp_le (pc' := 31) (t := 40) rfl rfl rfl (fun c_28 => ?_) (fun c_28 => ?_)
        · refine g_iinc (pc' := 43) (v := nI (i + 1)) rfl rfl rfl (nI_1 i) rfl ?_
          refine g_goto (pc' := 7) rfl rfl ?_
          exact ih (i + 1) _ _ (by omega) (by unfold fN; rw [← ha]; unfold bestStep; rw [if_neg (fun z => z.2 c_28)])
        · refine g_aload_n (pc' := 32) rfl rfl rfl ?_
          refine g_getr (pc' := 35) rfl rfl (f_8_2 hp) ?_
          refine g_iload_n (pc' := 36) rfl rfl rfl ?_
          refine g_iald (pc' := 37) rfl rfl (a_S3 hp) hlt rfl ?_
          refine g_vi (y := sS (stAt m p) i) (st_S hlt) ?_
          refine g_istore_n (pc' := 38) rfl rfl rfl ?_
          refine g_iload_n (pc' := 39) rfl rfl rfl ?_
          refine g_istore_n (pc' := 40) rfl rfl rfl ?_
          refine g_iinc (pc' := 43) (v := nI (i + 1)) rfl rfl rfl (nI_1 i) rfl ?_
          refine g_goto (pc' := 7) rfl rfl ?_
          exact ih (i + 1) _ _ (by omega) (by unfold fN; rw [← ha]; unfold bestStep; rw [if_pos ⟨q, c_28⟩])
  refine g_iconst (pc' := 1) (v := 0) rfl rfl (by decide) ?_
  refine g_istore_n (pc' := 2) rfl rfl rfl ?_
  refine g_bipush (pc' := 4) (v := -6) rfl rfl (by decide) ?_
  refine g_istore_n (pc' := 5) rfl rfl rfl ?_
  refine g_iconst (pc' := 6) (v := 0) rfl rfl (by decide) ?_
  refine g_istore_n (pc' := 7) rfl rfl rfl ?_
  exact loop 10 0 0 (-6) rfl rfl
theorem bestB_in (s : aStr) : (bestB s).2 = -6 ∨ ∃ k, k < 10 ∧ (bestB s).2 = nI k := by
  have : ∀ i, i ≤ 10 → (fN (bestStep s) i (0, -6)).2 = -6 ∨ ∃ k, k < 10 ∧ (fN (bestStep s) i (0, -6)).2 = nI k := by
    intro i
    induction i with
    | zero => intro _; exact Or.inl rfl
    | succ i ih =>
      intro hi
      show (bestStep s i (fN (bestStep s) i (0, -6))).2 = -6 ∨ ∃ k, k < 10 ∧ (bestStep s i (fN (bestStep s) i (0, -6))).2 = nI k
      unfold bestStep
      split
      · exact Or.inr ⟨i, by omega, rfl⟩
      · exact ih (by omega)
  exact this 10 (Nat.le_refl _)
def mostV (s : aStr) : Int32 := if (bestB s).2 = -6 then 0 else sS s (bestB s).2.toNatClampNeg
theorem c_mostScore {p : Nat} (hp : isS p) (h : K (mostV (stAt m p)) m) : gCi X 57 [.ref p] m K := by
  refine g_inI rfl ?_
  refine g_aload_n (pc' := 1) rfl rfl rfl ?_
  refine g_calli (pc' := 4) rfl rfl rfl rfl (Or.inr (rc_S hp)) ?_
  refine c_nutOfMostScore hp ?_
  refine g_topi (fun w hw => ?_)
  refine g_istore_n (pc' := 5) rfl rfl rfl ?_
  refine g_iload_n (pc' := 6) rfl rfl rfl ?_
  refine g_bipush (pc' := 8) (v := -6) rfl rfl (by decide) ?_
  refine g_icmp_ne (pc' := 11) (t := 15) rfl rfl rfl (fun c_8 => ?_) (fun c_8 => ?_)
  · obtain ⟨k, hk, e⟩ := (bestB_in (stAt m p)).resolve_left (by rw [← hw]; exact c_8)
    refine g_aload_n (pc' := 16) rfl rfl rfl ?_
    refine g_getr (pc' := 19) rfl rfl (f_8_2 hp) ?_
    refine g_iload_n (pc' := 20) rfl rfl rfl ?_
    refine g_iald (pc' := 21) rfl rfl (a_S3 hp) hk (hw.trans e) ?_
    refine g_vi (y := sS (stAt m p) k) (st_S hk) ?_
    exact g_ireturn rfl rfl (g_eq h (by unfold mostV; rw [if_neg (by rw [← hw]; exact c_8), e, nI_clamp (by omega)]) rfl)
  · refine g_iconst (pc' := 12) (v := 0) rfl rfl (by decide) ?_
    refine g_goto (pc' := 21) rfl rfl ?_
    exact g_ireturn rfl rfl (g_eq h (by unfold mostV; rw [← hw, if_pos c_8]) rfl)
/-- the first i nuts as in s, the rest as in r -/
def mixS (s r : aStr) (i : Nat) : aStr := (fun k => if k < i then sH s k else sH r k, fun k => if k < i then sC s k else sC r k, fun k => if k < i then sS s k else sS r k, fun k => if k < i then sO s k else sO r k, fun k => if k < i then sI s k else sI r k, sD r)
theorem mixS_0 (s r : aStr) : mixS s r 0 = r := by
  unfold mixS
  simp [sH, sC, sS, sO, sI, sD]
theorem mix_upd (f g : Nat → Int32) (i : Nat) : (fun k => if k < i + 1 then f k else g k) = upd (fun k => if k < i then f k else g k) i (f i) := by
  funext k
  unfold upd
  by_cases h : k = i
  · subst h; simp
  · by_cases h2 : k < i
    · simp [h, h2, show k < i + 1 by omega]
    · simp [h, h2, show ¬ k < i + 1 by omega]
theorem mixS_s (s r : aStr) (i : Nat) : mixS s r (i + 1) = uI (uO (uS (uC (uH (mixS s r i) i (sH s i)) i (sC s i)) i (sS s i)) i (sO s i)) i (sI s i) := by
  unfold mixS uI uO uS uC uH
  simp only [sH, sC, sS, sO, sI, sD, mix_upd]
theorem mixS_10 {m : aMem} {p q : Nat} : uD (mixS (stAt m q) (stAt m p) 10) (sD (stAt m q)) = stAt m q := by
  have h : ∀ f g : Nat → Int32, (fun k => if k < 10 then cut 10 f k else cut 10 g k) = cut 10 f := fun f g => by
    funext k
    by_cases hk : k < 10
    · simp [hk]
    · simp [hk, cut]
  unfold mixS uD
  simp only [sH, sC, sS, sO, sI, sD, stAt, h]
theorem c_copyFrom {p q : Nat} {K : aMem → Prop} (hp : isS p) (hq : isS q) (hpq : p + 5 < q ∨ q + 5 < p) (h : ∀ m', Fr p (p + 6) m m' → stAt m' p = stAt m q → K m') : gCv X 50 [.ref p, .ref q] m K := by
  refine g_inV rfl ?_
  have loop : ∀ (d i : Nat) (m1 : aMem), i + d = 10 → Fr p (p + 6) m m1 → stAt m1 p = mixS (stAt m q) (stAt m p) i → gG X 50 2 [.ref p, .ref q, .int (nI i)] [] m1 (fun r m' => r = none ∧ K m') := by
    intro d
    induction d with
    | zero =>
      intro i m1 hd hF hs
      have hi : i = 10 := by omega
      subst hi
      refine g_iload_n (pc' := 3) rfl rfl rfl ?_
      refine g_bipush (pc' := 5) (v := 10) rfl rfl (by decide) ?_
      refine g_icmp_ge (pc' := 8) (t := 74) rfl rfl rfl (fun c_5 => ?_) (fun c_5 => absurd (by decide) c_5)
      refine g_aload_n (pc' := 75) rfl rfl rfl ?_
      refine g_aload_n (pc' := 76) rfl rfl rfl ?_
      refine g_geti (pc' := 79) rfl rfl (i_8_5 hq) ?_
      refine g_puti (pc' := 82) rfl rfl (i_8_5 hp) ?_
      have eq := hF.st (p := q) (by omega)
      exact g_return rfl rfl (h _ (hF.s (by omega) (by omega)) (by rw [st_wD, hs]; rw [show m1.1 q 5 = sD (stAt m1 q) from rfl, eq]; exact mixS_10))
    | succ d ih =>
      intro i m1 hd hF hs
      have hlt : i < 10 := by omega
      have eq := hF.st (p := q) (by omega)
      have e1 : m1.1 (q + 1) i = sH (stAt m q) i := by rw [← eq]; exact st_H hlt
      have e2 : m1.1 (q + 2) i = sC (stAt m q) i := by rw [← eq]; exact st_C hlt
      have e3 : m1.1 (q + 3) i = sS (stAt m q) i := by rw [← eq]; exact st_S hlt
      have e4 : m1.1 (q + 4) i = sO (stAt m q) i := by rw [← eq]; exact st_O hlt
      have e5 : m1.1 (q + 5) i = sI (stAt m q) i := by rw [← eq]; exact st_I hlt
      refine g_iload_n (pc' := 3) rfl rfl rfl ?_
      refine g_bipush (pc' := 5) (v := 10) rfl rfl (by decide) ?_
      refine g_icmp_ge (pc' := 8) (t := 74) rfl rfl rfl (fun c_5 => absurd c_5 (nI_ge (b := 10) hlt (by decide))) (fun c_5 => ?_)
      refine g_aload_n (pc' := 9) rfl rfl rfl ?_
      refine g_getr (pc' := 12) rfl rfl (f_8_0 hp) ?_
      refine g_iload_n (pc' := 13) rfl rfl rfl ?_
      refine g_aload_n (pc' := 14) rfl rfl rfl ?_
      refine g_getr (pc' := 17) rfl rfl (f_8_0 hq) ?_
      refine g_iload_n (pc' := 18) rfl rfl rfl ?_
      refine g_iald (pc' := 19) rfl rfl (a_S1 hq) hlt rfl ?_
      refine g_vi (y := sH (stAt m q) i) (e1) ?_
      refine g_iast (pc' := 20) rfl rfl (a_S1 hp) hlt rfl ?_
      refine g_aload_n (pc' := 21) rfl rfl rfl ?_
      refine g_getr (pc' := 24) rfl rfl (f_8_1 hp) ?_
      refine g_iload_n (pc' := 25) rfl rfl rfl ?_
      refine g_aload_n (pc' := 26) rfl rfl rfl ?_
      refine g_getr (pc' := 29) rfl rfl (f_8_1 hq) ?_
      refine g_iload_n (pc' := 30) rfl rfl rfl ?_
      refine g_iald (pc' := 31) rfl rfl (a_S2 hq) hlt rfl ?_
      refine g_vi (y := sC (stAt m q) i) (by rw [st_C hlt, (hF.s (by omega) (by omega)).st (p := q) (by omega)]) ?_
      refine g_iast (pc' := 32) rfl rfl (a_S2 hp) hlt rfl ?_
      refine g_aload_n (pc' := 33) rfl rfl rfl ?_
      refine g_getr (pc' := 36) rfl rfl (f_8_2 hp) ?_
      refine g_iload_n (pc' := 37) rfl rfl rfl ?_
      refine g_aload_n (pc' := 38) rfl rfl rfl ?_
      refine g_getr (pc' := 41) rfl rfl (f_8_2 hq) ?_
      refine g_iload_n (pc' := 42) rfl rfl rfl ?_
      refine g_iald (pc' := 43) rfl rfl (a_S3 hq) hlt rfl ?_
      refine g_vi (y := sS (stAt m q) i) (by rw [st_S hlt, ((hF.s (by omega) (by omega)).s (by omega) (by omega)).st (p := q) (by omega)]) ?_
      refine g_iast (pc' := 44) rfl rfl (a_S3 hp) hlt rfl ?_
      refine g_aload_n (pc' := 45) rfl rfl rfl ?_
      refine g_getr (pc' := 48) rfl rfl (f_8_3 hp) ?_
      refine g_iload_n (pc' := 49) rfl rfl rfl ?_
      refine g_aload_n (pc' := 50) rfl rfl rfl ?_
      refine g_getr (pc' := 53) rfl rfl (f_8_3 hq) ?_
      refine g_iload_n (pc' := 54) rfl rfl rfl ?_
      refine g_iald (pc' := 55) rfl rfl (a_S4 hq) hlt rfl ?_
      refine g_vi (y := sO (stAt m q) i) (by rw [st_O hlt, (((hF.s (by omega) (by omega)).s (by omega) (by omega)).s (by omega) (by omega)).st (p := q) (by omega)]) ?_
      refine g_iast (pc' := 56) rfl rfl (a_S4 hp) hlt rfl ?_
      refine g_aload_n (pc' := 57) rfl rfl rfl ?_
      refine g_getr (pc' := 60) rfl rfl (f_8_4 hp) ?_
      refine g_iload_n (pc' := 61) rfl rfl rfl ?_
      refine g_aload_n (pc' := 62) rfl rfl rfl ?_
      refine g_getr (pc' := 65) rfl rfl (f_8_4 hq) ?_
      refine g_iload_n (pc' := 66) rfl rfl rfl ?_
      refine g_iald (pc' := 67) rfl rfl (a_S5 hq) hlt rfl ?_
      refine g_vi (y := sI (stAt m q) i) (by rw [st_I hlt, ((((hF.s (by omega) (by omega)).s (by omega) (by omega)).s (by omega) (by omega)).s (by omega) (by omega)).st (p := q) (by omega)]) ?_
      refine g_iast (pc' := 68) rfl rfl (a_S5 hp) hlt rfl ?_
      refine g_iinc (pc' := 71) (v := nI (i + 1)) rfl rfl rfl (nI_1 i) rfl ?_
      refine g_goto (pc' := 2) rfl rfl ?_
      exact ih (i + 1) _ (by omega) (((((hF.s (by omega) (by omega)).s (by omega) (by omega)).s (by omega) (by omega)).s (by omega) (by omega)).s (by omega) (by omega)) (by rw [st_wI hlt, st_wO hlt, st_wS hlt, st_wC hlt, st_wH hlt, hs, mixS_s])
  refine g_iconst (pc' := 1) (v := 0) rfl rfl (by decide) ?_
  refine g_istore_n (pc' := 2) rfl rfl rfl ?_
  exact loop 10 0 m rfl Fr.rf (mixS_0 _ _).symm
theorem c_passDay {p : Nat} {K : aMem → Prop} (hp : isS p) (h : ∀ m', Fr p (p + 6) m m' → stAt m' p = dayS (stAt m p) → K m') : gCv X 62 [.ref p] m K := by
  refine g_inV rfl ?_
  have loop : ∀ (d i : Nat) (m1 : aMem), i + d = 10 → Fr p (p + 6) m m1 → stAt m1 p = dayP (stAt m p) i → gG X 62 2 [.ref p, .int (nI i)] [] m1 (fun r m' => r = none ∧ K m') := by
    intro d
    induction d with
    | zero =>
      intro i m1 hd hF hs
      have hi : i = 10 := by omega
      subst hi
      refine g_iload_n (pc' := 3) rfl rfl rfl ?_
      refine g_bipush (pc' := 5) (v := 10) rfl rfl (by decide) ?_
      refine g_icmp_ge (pc' := 8) (t := 43) rfl rfl rfl (fun c_5 => ?_) (fun c_5 => absurd (by decide) c_5)
      refine g_aload_n (pc' := 44) rfl rfl rfl ?_
      refine g_dup (pc' := 45) rfl rfl rfl ?_
      refine g_geti (pc' := 48) rfl rfl (i_8_5 hp) ?_
      refine g_iconst (pc' := 49) (v := 1) rfl rfl (by decide) ?_
      refine g_iadd (pc' := 50) rfl rfl ?_
      refine g_puti (pc' := 53) rfl rfl (i_8_5 hp) ?_
      exact g_return rfl rfl (h _ (hF.s (by omega) (by omega)) (by rw [st_wD, hs]; rw [show m1.1 p 5 = sD (stAt m1 p) from rfl, hs]; rfl))
    | succ d ih =>
      intro i m1 hd hF hs
      have hlt : i < 10 := by omega
      have e1 : m1.1 (p + 1) i = sH (stAt m p) i := by rw [st_H hlt, hs]; exact dayP_H _ _
      refine g_iload_n (pc' := 3) rfl rfl rfl ?_
      refine g_bipush (pc' := 5) (v := 10) rfl rfl (by decide) ?_
      refine g_icmp_ge (pc' := 8) (t := 43) rfl rfl rfl (fun c_5 => absurd c_5 (nI_ge (b := 10) hlt (by decide))) (fun c_5 => ?_)
      refine g_aload_n (pc' := 9) rfl rfl rfl ?_
      refine g_iload_n (pc' := 10) rfl rfl rfl ?_
      refine g_calli (pc' := 13) rfl rfl rfl rfl (Or.inr (rc_S hp)) ?_
      refine c_isBroken hp hlt (fun q => ?_) (fun q => ?_)
      · refine g_if_ne (pc' := 16) (t := 37) rfl rfl rfl (fun _ => ?_) (fun c => absurd c (by decide))
        refine g_iinc (pc' := 40) (v := nI (i + 1)) rfl rfl rfl (nI_1 i) rfl ?_
        refine g_goto (pc' := 2) rfl rfl ?_
        exact ih (i + 1) _ (by omega) hF (by rw [dayP_s, ← hs, show dh (sC (stAt m p) i) (sH (stAt m p) i) = sH (stAt m1 p) i by rw [hs, dayP_H]; unfold dh; rw [if_pos (by rw [← dayP_C (stAt m p) i, ← hs]; exact q)], uH_self])
      · refine g_if_ne (pc' := 16) (t := 37) rfl rfl rfl (fun c => absurd c (by decide)) (fun _ => ?_)
        refine g_aload_n (pc' := 17) rfl rfl rfl ?_
        refine g_getr (pc' := 20) rfl rfl (f_8_0 hp) ?_
        refine g_iload_n (pc' := 21) rfl rfl rfl ?_
        refine g_iald (pc' := 22) rfl rfl (a_S1 hp) hlt rfl ?_
        refine g_vi (y := sH (stAt m p) i) (e1) ?_
        refine g_bipush (pc' := 24) (v := 99) rfl rfl (by decide) ?_
        refine g_icmp_ge (pc' := 27) (t := 37) rfl rfl rfl (fun c_24 => ?_) (fun c_24 => ?_)
        · refine g_iinc (pc' := 40) (v := nI (i + 1)) rfl rfl rfl (nI_1 i) rfl ?_
          refine g_goto (pc' := 2) rfl rfl ?_
          exact ih (i + 1) _ (by omega) hF (by rw [dayP_s, ← hs, show dh (sC (stAt m p) i) (sH (stAt m p) i) = sH (stAt m1 p) i by rw [hs, dayP_H]; unfold dh; rw [if_neg (by rw [← dayP_C (stAt m p) i, ← hs]; exact q), if_pos c_24], uH_self])
        · refine g_aload_n (pc' := 28) rfl rfl rfl ?_
          refine g_getr (pc' := 31) rfl rfl (f_8_0 hp) ?_
          refine g_iload_n (pc' := 32) rfl rfl rfl ?_
          refine g_dup2 (pc' := 33) rfl rfl ?_
          refine g_iald (pc' := 34) rfl rfl (a_S1 hp) hlt rfl ?_
          refine g_vi (y := sH (stAt m p) i) (e1) ?_
          refine g_iconst (pc' := 35) (v := 1) rfl rfl (by decide) ?_
          refine g_iadd (pc' := 36) rfl rfl ?_
          refine g_iast (pc' := 37) rfl rfl (a_S1 hp) hlt rfl ?_
          refine g_iinc (pc' := 40) (v := nI (i + 1)) rfl rfl rfl (nI_1 i) rfl ?_
          refine g_goto (pc' := 2) rfl rfl ?_
          exact ih (i + 1) _ (by omega) (hF.s (by omega) (by omega)) (by rw [st_wH hlt, hs, dayP_s]; congr 1; unfold dh; rw [if_neg (by rw [← dayP_C (stAt m p) i, ← hs]; exact q), if_neg c_24])
  refine g_iconst (pc' := 1) (v := 0) rfl rfl (by decide) ?_
  refine g_istore_n (pc' := 2) rfl rfl rfl ?_
  exact loop 10 0 m rfl Fr.rf (dayP_0 _).symm
end C2
