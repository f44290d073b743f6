/-! ROUNDS: the model -/
def aoN (s : aStr) (x o c : Nat) : Nat := if o ≠ x ∧ ¬ sC s o = 3 then (ftN s x o 5 0 c (ix (sC s o))).1 else 3
def stN (f : Nat → Nat) (v : Nat) (c a : Nat) : Nat := if v.testBit c = true ∧ f c < 3 then a ||| 2 ^ f c else a
def stepN (f : Nat → Nat) (v : Nat) : Nat := fN (stN f v) 3 0
def lbS (s : aStr) (x : Nat) (D : Nat → Nat) (S o a : Nat) : Nat := if S.testBit o = true then a ||| stepN (aoN s x o) (D (S - 2 ^ o)) else a
def lbN (s : aStr) (x : Nat) (D : Nat → Nat) (S : Nat) : Nat := fN (lbS s x D S) 10 0
def pcF : Nat → Nat → Nat
  | 0, _ => 0
  | n + 1, v => if v = 0 then 0 else pcF n (v &&& (v - 1)) + 1
def pcV : Nat → Nat → Nat
  | 0, v => v
  | n + 1, v => if v = 0 then 0 else pcV n (v &&& (v - 1))
def pcN (v : Nat) : Nat := pcF 10 v
theorem pcV_0 : ∀ v, v < 1024 → pcV 10 v = 0 := by decide +kernel
theorem pcF_le : ∀ n v, pcF n v ≤ n
  | 0, _ => Nat.le_refl _
  | n + 1, v => by
    rw [pcF]
    split
    · omega
    · have := pcF_le n (v &&& (v - 1)); omega
def tbl (s : aStr) (x c0 : Nat) : Nat → Nat → Nat
  | 0, _ => 0
  | n + 1, k => if k = n then (if n = 0 then 2 ^ c0 else lbN s x (tbl s x c0 n) n) else tbl s x c0 n k
def tD (s : aStr) (x c0 S : Nat) : Nat := tbl s x c0 (S + 1) S
theorem tbl_lt {s : aStr} {x c0 : Nat} : ∀ n k, k < n → tbl s x c0 n k = tD s x c0 k := by
  intro n
  induction n with
  | zero => intro k h; omega
  | succ n ih =>
    intro k h
    by_cases e : k = n
    · subst e; rfl
    · rw [tbl, if_neg e]; exact ih k (by omega)
theorem fN_ext {α : Type} {f g : Nat → α → α} : ∀ n a, (∀ k, k < n → ∀ b, f k b = g k b) → fN f n a = fN g n a := fun n a h => fN_congr n a h
theorem tD_0 {s : aStr} {x c0 : Nat} : tD s x c0 0 = 2 ^ c0 := by unfold tD; rw [tbl, if_pos rfl, if_pos rfl]
theorem tb_ge {S o : Nat} (h : S.testBit o = true) : 2 ^ o ≤ S := Nat.ge_two_pow_of_testBit h
theorem tD_s {s : aStr} {x c0 S : Nat} (h : S ≠ 0) : tD s x c0 S = lbN s x (tD s x c0) S := by
  unfold tD
  rw [tbl, if_pos rfl, if_neg h]
  unfold lbN
  refine fN_ext 10 0 (fun o ho a => ?_)
  unfold lbS
  by_cases hb : S.testBit o = true
  · rw [if_pos hb, if_pos hb, tbl_lt S (S - 2 ^ o) (by have := tb_ge hb; have := Nat.two_pow_pos o; omega)]; rfl
  · rw [if_neg hb, if_neg hb]
theorem fN_lt {f : Nat → Nat → Nat} {B : Nat} (h : ∀ k a, a < B → f k a < B) : ∀ n a, a < B → fN f n a < B := by
  intro n
  induction n with
  | zero => intro a ha; exact ha
  | succ n ih => intro a ha; rw [fN]; exact h n _ (ih a ha)
theorem or_8 {a b : Nat} (ha : a < 8) (hb : b < 8) : a ||| b < 8 := Nat.or_lt_two_pow (n := 3) ha hb
theorem p_8 {k : Nat} (h : k < 3) : 2 ^ k < 8 := Nat.pow_lt_pow_right (a := 2) (by decide) h
theorem stepN_lt (f : Nat → Nat) (v : Nat) : stepN f v < 8 := fN_lt (fun k a ha => by
  unfold stN
  split
  · exact or_8 ha (p_8 (by omega))
  · exact ha) 3 0 (by decide)
theorem lbN_lt {s : aStr} {x S : Nat} {D : Nat → Nat} : lbN s x D S < 8 := fN_lt (fun k a ha => by
  unfold lbS
  split
  · exact or_8 ha (stepN_lt _ _)
  · exact ha) 10 0 (by decide)
theorem tD_lt {s : aStr} {x c0 S : Nat} (h : c0 < 3) : tD s x c0 S < 8 := by
  by_cases e : S = 0
  · subst e; rw [tD_0]; exact p_8 h
  · rw [tD_s e]; exact lbN_lt
theorem stepN_3 {f : Nat → Nat} {v : Nat} (h : ∀ c, c < 3 → ¬ f c < 3) : stepN f v = 0 := by
  unfold stepN
  simp [fN, stN, h 0 (by decide), h 1 (by decide), h 2 (by decide)]
theorem stepN_0 {f : Nat → Nat} : stepN f 0 = 0 := by
  unfold stepN
  simp [fN, stN]
def moS (D : Nat → Nat) (S b : Nat) : Nat := if D S ≠ 0 ∧ pcN b < pcN S then S else b
def moN (D : Nat → Nat) (n : Nat) : Nat := fN (moS D) n 0
theorem moN_lt {D : Nat → Nat} : ∀ n, n ≤ 1024 → moN D n < 1024 := by
  intro n
  induction n with
  | zero => intro _; exact (by decide : 0 < 1024)
  | succ n ih =>
    intro h
    unfold moN
    rw [fN]
    unfold moS
    split
    · omega
    · exact ih (by omega)
def r_round (A : aA) (x w : Int32) : Int32 × aA := if ¬ (0 ≤ x ∧ x ≤ 9) then (-1, A) else if ¬ (0 ≤ w ∧ w ≤ 1) then (-2, A) else if sC (aS A) (ix x) = 3 then (-6, A) else (if w = 0 then nI (pcN (moN (tD (aS A) (ix x) (ix (sC (aS A) (ix x)))) 1024)) else nI (moN (tD (aS A) (ix x) (ix (sC (aS A) (ix x)))) 1024), A)
section R1
variable {X : aX} {m : aMem} {A : aA} {K : Int32 → aMem → Prop}
theorem d_ones {v : Nat} (hv : v < 1024) (h : K (nI (pcN v)) m) : gCi X 109 [.int (nI v)] m K := by
  refine g_inI rfl ?_
  have loop : ∀ (n u c : Nat), u < 1024 → c + n ≤ 1000 → pcV n u = 0 → pcF n u + c = pcN v → gG X 109 4 [.int (nI v), .int (nI c), .int (nI u)] [] m (fun r m' => ∃ v, r = some (.int v) ∧ K v m') := by
    intro n
    induction n with
    | zero =>
      intro u c hu hc hz hp
      have e : u = 0 := hz
      subst e
      refine g_iload_n (pc' := 5) rfl rfl rfl ?_
      refine g_if_eq (pc' := 8) (t := 20) rfl rfl rfl (fun c_5 => ?_) (fun c_5 => absurd rfl c_5)
      refine g_iload_n (pc' := 21) rfl rfl rfl ?_
      exact g_ireturn rfl rfl (g_eq h (by rw [← hp, pcF, Nat.zero_add]) rfl)
    | succ n ih =>
      intro u c hu hc hz hp
      refine g_iload_n (pc' := 5) rfl rfl rfl ?_
      refine g_if_eq (pc' := 8) (t := 20) rfl rfl rfl (fun c_5 => ?_) (fun c_5 => ?_)
      · refine g_iload_n (pc' := 21) rfl rfl rfl ?_
        exact g_ireturn rfl rfl (g_eq h (by rw [← hp, pcF, if_pos ((nI_eq (b := 0) (by omega) (by decide)).mp c_5), Nat.zero_add]) rfl)
      · have hu0 : ¬ u = 0 := fun z => c_5 (by rw [z]; rfl)
        refine g_iinc (pc' := 11) (v := nI (c + 1)) rfl rfl rfl (nI_1 c) rfl ?_
        refine g_iload_n (pc' := 12) rfl rfl rfl ?_
        refine g_iload_n (pc' := 13) rfl rfl rfl ?_
        refine g_iconst (pc' := 14) (v := 1) rfl rfl (by decide) ?_
        refine g_isub (pc' := 15) rfl rfl ?_
        refine g_vi (y := nI (u - 1)) (pk_sub (a := u) (b := 1) (by omega)) ?_
        refine g_iand (pc' := 16) rfl rfl ?_
        refine g_vi (y := nI (u &&& (u - 1))) (nI_and _ _) ?_
        refine g_istore_n (pc' := 17) rfl rfl rfl ?_
        refine g_goto (pc' := 4) rfl rfl ?_
        exact ih (u &&& (u - 1)) (c + 1) (Nat.lt_of_le_of_lt Nat.and_le_left hu) (by omega) (by rw [pcV, if_neg hu0] at hz; exact hz) (by rw [← hp, pcF, if_neg hu0]; omega)
  refine g_iconst (pc' := 1) (v := 0) rfl rfl (by decide) ?_
  refine g_istore_n (pc' := 2) rfl rfl rfl ?_
  refine g_iload_n (pc' := 3) rfl rfl rfl ?_
  refine g_istore_n (pc' := 4) rfl rfl rfl ?_
  exact loop 10 v 0 hv (by decide) (pcV_0 v hv) rfl
theorem ao_op {Mx : Nat} {s : aStr} {x o c : Nat} (hW : WFs Mx s) (ho : o < 10) (hne : o ≠ x) (hb : ¬ sC s o = 3) : ∃ co, co < 3 ∧ sC s o = nI co ∧ aoN s x o c = (ftN s x o 5 0 c co).1 := by
  obtain ⟨co, hc, e⟩ := hW.live ho hb
  exact ⟨co, hc, e, by unfold aoN; rw [if_pos ⟨hne, hb⟩, e, ix_nI (by omega)]⟩
theorem ao_cl {s : aStr} {x o : Nat} (h : ¬ (o ≠ x ∧ ¬ sC s o = 3)) (c : Nat) : aoN s x o c = 3 := by unfold aoN; rw [if_neg h]
theorem or_0 {v : Nat} : nI v ||| 0 = nI v := i_or0 _
theorem d_comesOut {x o v Mx : Nat} (hx : x < 10) (ho : o < 10) (hv : v < 8) (hne : o ≠ x) (hb : ¬ sC (stAt m 53) o = 3) (hW : WFs Mx (stAt m 53)) (h : ∀ m', SL m m' → K (nI (stepN (aoN (stAt m 53) x o) v)) m') : gCi X 146 [.ref 53, .int (nI x), .int (nI o), .int (nI v)] m K := by
  refine g_inI rfl ?_
  have loop : ∀ (d i : Nat) (m1 : aMem), i + d = 3 → SL m m1 → gG X 146 6 [.ref 53, .int (nI x), .int (nI o), .int (nI v), .int (nI (fN (stN (aoN (stAt m 53) x o) v) i 0)), .int (nI i)] [] m1 (fun r m' => ∃ v, r = some (.int v) ∧ K v m') := by
    intro d
    induction d with
    | zero =>
      intro i m1 hd hS
      have hi : i = 3 := by omega
      subst hi
      refine g_iload (pc' := 8) rfl rfl rfl ?_
      refine g_iconst (pc' := 9) (v := 3) rfl rfl (by decide) ?_
      refine g_icmp_ge (pc' := 12) (t := 64) rfl rfl rfl (fun c_9 => ?_) (fun c_9 => absurd (by decide) c_9)
      refine g_iload (pc' := 66) rfl rfl rfl ?_
      exact g_ireturn rfl rfl (h m1 hS)
    | succ d ih =>
      intro i m1 hd hS
      have hlt : i < 3 := by omega
      refine g_iload (pc' := 8) rfl rfl rfl ?_
      refine g_iconst (pc' := 9) (v := 3) rfl rfl (by decide) ?_
      refine g_icmp_ge (pc' := 12) (t := 64) rfl rfl rfl (fun c_9 => absurd c_9 (nI_ge (b := 3) hlt (by decide))) (fun c_9 => ?_)
      refine g_iload_n (pc' := 13) rfl rfl rfl ?_
      refine g_iload (pc' := 15) rfl rfl rfl ?_
      refine g_calli (pc' := 18) rfl rfl rfl rfl (Or.inl rfl) ?_
      refine d_has (by omega) (by omega) (fun hb1 => ?_) (fun hb0 => ?_)
      · obtain ⟨co, hco, eco, eao⟩ := ao_op (c := i) hW ho hne hb
        obtain ⟨hO, -, -, -⟩ := ft_out (s := stAt m 53) (a := x) (b := o) 5 0 i co (by omega) (by omega) (by omega) (by omega)
        refine g_if_eq (pc' := 21) (t := 58) rfl rfl rfl (fun c => absurd c (by decide)) (fun _ => ?_)
        refine g_aload_n (pc' := 22) rfl rfl rfl ?_
        refine g_iload_n (pc' := 23) rfl rfl rfl ?_
        refine g_iload (pc' := 25) rfl rfl rfl ?_
        refine g_iload_n (pc' := 26) rfl rfl rfl ?_
        refine g_aload_n (pc' := 27) rfl rfl rfl ?_
        refine g_getr (pc' := 30) rfl rfl (f_11_1) ?_
        refine g_iload_n (pc' := 31) rfl rfl rfl ?_
        refine g_iald (pc' := 32) rfl rfl (a_55) ho rfl ?_
        refine g_vi (y := nI co) (by rw [r_C ho, hS.st]; exact eco) ?_
        refine g_callv (pc' := 35) rfl rfl rfl rfl (Or.inr rfl) ?_
        refine d_fightOut hx ho hlt hco rfl (fun m2 s2 g22 g23 g24 => ?_)
        rw [hS.st, ← eao] at g22
        refine g_iload (pc' := 37) rfl rfl rfl ?_
        refine g_aload_n (pc' := 38) rfl rfl rfl ?_
        refine g_geti (pc' := 41) rfl rfl (i_11_22) ?_
        refine g_vi (y := nI (aoN (stAt m 53) x o i)) (g22) ?_
        refine g_iconst (pc' := 42) (v := 3) rfl rfl (by decide) ?_
        refine g_icmp_ge (pc' := 45) (t := 54) rfl rfl rfl (fun c_42 => ?_) (fun c_42 => ?_)
        · refine g_iconst (pc' := 55) (v := 0) rfl rfl (by decide) ?_
          refine g_ior (pc' := 56) rfl rfl ?_
          refine g_vi (y := nI (fN (stN (aoN (stAt m 53) x o) v) i 0)) (or_0) ?_
          refine g_istore (pc' := 58) rfl rfl rfl ?_
          refine g_iinc (pc' := 61) (v := nI (i + 1)) rfl rfl rfl (nI_1 i) rfl ?_
          refine g_goto (pc' := 6) rfl rfl ?_
          have e : fN (stN (aoN (stAt m 53) x o) v) (i + 1) 0 = fN (stN (aoN (stAt m 53) x o) v) i 0 := by rw [fN]; exact if_neg (fun z => nI_ge (b := 3) z.2 (by decide) c_42)
          rw [← e]
          exact ih (i + 1) m2 (by omega) (hS.tr s2)
        · have ha3 : aoN (stAt m 53) x o i < 3 := Nat.not_le.mp (fun z => c_42 (nI_le (a := 3) z (by omega)))
          refine g_iconst (pc' := 46) (v := 1) rfl rfl (by decide) ?_
          refine g_aload_n (pc' := 47) rfl rfl rfl ?_
          refine g_geti (pc' := 50) rfl rfl (i_11_22) ?_
          refine g_vi (y := nI (aoN (stAt m 53) x o i)) (g22) ?_
          refine g_ishl (pc' := 51) rfl rfl ?_
          refine g_vi (y := nI (2 ^ aoN (stAt m 53) x o i)) (bit_nI (by omega)) ?_
          refine g_goto (pc' := 55) rfl rfl ?_
          refine g_ior (pc' := 56) rfl rfl ?_
          refine g_vi (y := nI (fN (stN (aoN (stAt m 53) x o) v) i 0 ||| 2 ^ aoN (stAt m 53) x o i)) (nI_or _ _) ?_
          refine g_istore (pc' := 58) rfl rfl rfl ?_
          refine g_iinc (pc' := 61) (v := nI (i + 1)) rfl rfl rfl (nI_1 i) rfl ?_
          refine g_goto (pc' := 6) rfl rfl ?_
          have e : fN (stN (aoN (stAt m 53) x o) v) (i + 1) 0 = fN (stN (aoN (stAt m 53) x o) v) i 0 ||| 2 ^ aoN (stAt m 53) x o i := by rw [fN]; exact if_pos ⟨hb1, ha3⟩
          rw [← e]
          exact ih (i + 1) m2 (by omega) (hS.tr s2)
      · refine g_if_eq (pc' := 21) (t := 58) rfl rfl rfl (fun _ => ?_) (fun c => absurd c (by decide))
        refine g_iinc (pc' := 61) (v := nI (i + 1)) rfl rfl rfl (nI_1 i) rfl ?_
        refine g_goto (pc' := 6) rfl rfl ?_
        have e : fN (stN (aoN (stAt m 53) x o) v) (i + 1) 0 = fN (stN (aoN (stAt m 53) x o) v) i 0 := by rw [fN]; exact if_neg (fun z => by rw [hb0] at z; exact absurd z.1 (by decide))
        rw [← e]
        exact ih (i + 1) m1 (by omega) hS
  refine g_iconst (pc' := 1) (v := 0) rfl rfl (by decide) ?_
  refine g_istore (pc' := 3) rfl rfl rfl ?_
  refine g_iconst (pc' := 4) (v := 0) rfl rfl (by decide) ?_
  refine g_istore (pc' := 6) rfl rfl rfl ?_
  exact loop 3 0 m rfl SL.rf
theorem clr_k : ∀ o, o < 10 → ∀ S, S < 1024 → S.testBit o = true → nI S &&& (nI (2 ^ o) ^^^ -1) = nI (S - 2 ^ o) := by decide +kernel
theorem d_leftBy {x S Mx : Nat} {D : Nat → Nat} (hx : x < 10) (hS10 : S < 1024) (hW : WFs Mx (stAt m 53)) (hL : ∀ T, T < S → m.1 66 T = nI (D T) ∧ D T < 8) (h : ∀ m', SL m m' → K (nI (lbN (stAt m 53) x D S)) m') : gCi X 147 [.ref 53, .int (nI x), .int (nI S)] m K := by
  refine g_inI rfl ?_
  have loop : ∀ (d i : Nat) (m1 : aMem) (v5 : Value), i + d = 10 → SL m m1 → gG X 147 5 [.ref 53, .int (nI x), .int (nI S), .int (nI (fN (lbS (stAt m 53) x D S) i 0)), .int (nI i), v5] [] m1 (fun r m' => ∃ v, r = some (.int v) ∧ K v m') := by
    intro d
    induction d with
    | zero =>
      intro i m1 v5 hd hS
      have hi : i = 10 := by omega
      subst hi
      refine g_iload (pc' := 7) rfl rfl rfl ?_
      refine g_bipush (pc' := 9) (v := 10) rfl rfl (by decide) ?_
      refine g_icmp_ge (pc' := 12) (t := 81) rfl rfl rfl (fun c_9 => ?_) (fun c_9 => absurd (by decide) c_9)
      refine g_iload_n (pc' := 82) rfl rfl rfl ?_
      exact g_ireturn rfl rfl (h m1 hS)
    | succ d ih =>
      intro i m1 v5 hd hS
      have hlt : i < 10 := by omega
      refine g_iload (pc' := 7) rfl rfl rfl ?_
      refine g_bipush (pc' := 9) (v := 10) rfl rfl (by decide) ?_
      refine g_icmp_ge (pc' := 12) (t := 81) rfl rfl rfl (fun c_9 => absurd c_9 (nI_ge (b := 10) hlt (by decide))) (fun c_9 => ?_)
      refine g_iload_n (pc' := 13) rfl rfl rfl ?_
      refine g_iload (pc' := 15) rfl rfl rfl ?_
      refine g_calli (pc' := 18) rfl rfl rfl rfl (Or.inl rfl) ?_
      refine d_has (by omega) (by omega) (fun hb1 => ?_) (fun hb0 => ?_)
      · refine g_if_eq (pc' := 21) (t := 40) rfl rfl rfl (fun c => absurd c (by decide)) (fun _ => ?_)
        refine g_iload (pc' := 23) rfl rfl rfl ?_
        refine g_iload_n (pc' := 24) rfl rfl rfl ?_
        refine g_icmp_eq (pc' := 27) (t := 40) rfl rfl rfl (fun c_24 => ?_) (fun c_24 => ?_)
        · refine g_iconst (pc' := 41) (v := 0) rfl rfl (by decide) ?_
          refine g_istore (pc' := 43) rfl rfl rfl ?_
          refine g_iload_n (pc' := 44) rfl rfl rfl ?_
          refine g_iload (pc' := 46) rfl rfl rfl ?_
          refine g_if_eq (pc' := 49) (t := 72) rfl rfl rfl (fun _ => ?_) (fun c => absurd c (by decide))
          refine g_iconst (pc' := 73) (v := 0) rfl rfl (by decide) ?_
          refine g_ior (pc' := 74) rfl rfl ?_
          refine g_vi (y := nI (fN (lbS (stAt m 53) x D S) i 0)) (or_0) ?_
          refine g_istore_n (pc' := 75) rfl rfl rfl ?_
          refine g_iinc (pc' := 78) (v := nI (i + 1)) rfl rfl rfl (nI_1 i) rfl ?_
          refine g_goto (pc' := 5) rfl rfl ?_
          have e : fN (lbS (stAt m 53) x D S) (i + 1) 0 = fN (lbS (stAt m 53) x D S) i 0 := by rw [fN]; rw [lbS, if_pos hb1, stepN_3 (fun c _ => by rw [ao_cl (fun z => z.1 ((nI_eq (by omega) (by omega)).mp c_24)) c]; decide), Nat.or_zero]
          rw [← e]
          exact ih (i + 1) m1 _ (by omega) hS
        · refine g_aload_n (pc' := 28) rfl rfl rfl ?_
          refine g_iload (pc' := 30) rfl rfl rfl ?_
          refine g_calli (pc' := 33) rfl rfl rfl rfl (Or.inr rfl) ?_
          refine d_isBroken hlt (fun q => ?_) (fun q => ?_)
          · refine g_if_ne (pc' := 36) (t := 40) rfl rfl rfl (fun _ => ?_) (fun c => absurd c (by decide))
            refine g_iconst (pc' := 41) (v := 0) rfl rfl (by decide) ?_
            refine g_istore (pc' := 43) rfl rfl rfl ?_
            refine g_iload_n (pc' := 44) rfl rfl rfl ?_
            refine g_iload (pc' := 46) rfl rfl rfl ?_
            refine g_if_eq (pc' := 49) (t := 72) rfl rfl rfl (fun _ => ?_) (fun c => absurd c (by decide))
            refine g_iconst (pc' := 73) (v := 0) rfl rfl (by decide) ?_
            refine g_ior (pc' := 74) rfl rfl ?_
            refine g_vi (y := nI (fN (lbS (stAt m 53) x D S) i 0)) (or_0) ?_
            refine g_istore_n (pc' := 75) rfl rfl rfl ?_
            refine g_iinc (pc' := 78) (v := nI (i + 1)) rfl rfl rfl (nI_1 i) rfl ?_
            refine g_goto (pc' := 5) rfl rfl ?_
            have e : fN (lbS (stAt m 53) x D S) (i + 1) 0 = fN (lbS (stAt m 53) x D S) i 0 := by rw [fN]; rw [lbS, if_pos hb1, stepN_3 (fun c _ => by rw [ao_cl (fun z => z.2 (by rw [← hS.st]; exact q)) c]; decide), Nat.or_zero]
            rw [← e]
            exact ih (i + 1) m1 _ (by omega) hS
          · refine g_if_ne (pc' := 36) (t := 40) rfl rfl rfl (fun c => absurd c (by decide)) (fun _ => ?_)
            refine g_iconst (pc' := 37) (v := 1) rfl rfl (by decide) ?_
            refine g_goto (pc' := 41) rfl rfl ?_
            refine g_istore (pc' := 43) rfl rfl rfl ?_
            refine g_iload_n (pc' := 44) rfl rfl rfl ?_
            refine g_iload (pc' := 46) rfl rfl rfl ?_
            refine g_if_eq (pc' := 49) (t := 72) rfl rfl rfl (fun c => absurd c (by decide)) (fun _ => ?_)
            refine g_aload_n (pc' := 50) rfl rfl rfl ?_
            refine g_iload_n (pc' := 51) rfl rfl rfl ?_
            refine g_iload (pc' := 53) rfl rfl rfl ?_
            refine g_aload_n (pc' := 54) rfl rfl rfl ?_
            refine g_getr (pc' := 57) rfl rfl (f_11_25) ?_
            refine g_iload_n (pc' := 58) rfl rfl rfl ?_
            refine g_iconst (pc' := 59) (v := 1) rfl rfl (by decide) ?_
            refine g_iload (pc' := 61) rfl rfl rfl ?_
            refine g_ishl (pc' := 62) rfl rfl ?_
            refine g_vi (y := nI (2 ^ i)) (bit_nI (by omega)) ?_
            refine g_iconst (pc' := 63) (v := -1) rfl rfl (by decide) ?_
            refine g_ixor (pc' := 64) rfl rfl ?_
            refine g_iand (pc' := 65) rfl rfl ?_
            refine g_vi (y := nI (S - 2 ^ i)) (clr_k i hlt S hS10 hb1) ?_
            have hge := tb_ge hb1
            have hpp := Nat.two_pow_pos i
            have hT := hL (S - 2 ^ i) (by omega)
            refine g_iald (pc' := 66) rfl rfl (a_66) (k := S - 2 ^ i) (by omega) rfl ?_
            refine g_vi (y := nI (D (S - 2 ^ i))) (by rw [hS.1 66 (by decide)]; exact hT.1) ?_
            refine g_calli (pc' := 69) rfl rfl rfl rfl (Or.inr rfl) ?_
            refine d_comesOut (Mx := Mx) hx hlt hT.2 (fun z => c_24 (by rw [z])) q (by rw [hS.st]; exact hW) (fun m2 s2 => ?_)
            rw [hS.st]
            refine g_goto (pc' := 73) rfl rfl ?_
            refine g_ior (pc' := 74) rfl rfl ?_
            refine g_vi (y := nI (fN (lbS (stAt m 53) x D S) i 0 ||| stepN (aoN (stAt m 53) x i) (D (S - 2 ^ i)))) (nI_or _ _) ?_
            refine g_istore_n (pc' := 75) rfl rfl rfl ?_
            refine g_iinc (pc' := 78) (v := nI (i + 1)) rfl rfl rfl (nI_1 i) rfl ?_
            refine g_goto (pc' := 5) rfl rfl ?_
            have e : fN (lbS (stAt m 53) x D S) (i + 1) 0 = fN (lbS (stAt m 53) x D S) i 0 ||| stepN (aoN (stAt m 53) x i) (D (S - 2 ^ i)) := by rw [fN]; exact if_pos hb1
            rw [← e]
            exact ih (i + 1) m2 _ (by omega) (hS.tr s2)
      · refine g_if_eq (pc' := 21) (t := 40) rfl rfl rfl (fun _ => ?_) (fun c => absurd c (by decide))
        refine g_iconst (pc' := 41) (v := 0) rfl rfl (by decide) ?_
        refine g_istore (pc' := 43) rfl rfl rfl ?_
        refine g_iload_n (pc' := 44) rfl rfl rfl ?_
        refine g_iload (pc' := 46) rfl rfl rfl ?_
        refine g_if_eq (pc' := 49) (t := 72) rfl rfl rfl (fun _ => ?_) (fun c => absurd c (by decide))
        refine g_iconst (pc' := 73) (v := 0) rfl rfl (by decide) ?_
        refine g_ior (pc' := 74) rfl rfl ?_
        refine g_vi (y := nI (fN (lbS (stAt m 53) x D S) i 0)) (or_0) ?_
        refine g_istore_n (pc' := 75) rfl rfl rfl ?_
        refine g_iinc (pc' := 78) (v := nI (i + 1)) rfl rfl rfl (nI_1 i) rfl ?_
        refine g_goto (pc' := 5) rfl rfl ?_
        have e : fN (lbS (stAt m 53) x D S) (i + 1) 0 = fN (lbS (stAt m 53) x D S) i 0 := by rw [fN]; rw [lbS, if_neg (by rw [hb0]; decide)]
        rw [← e]
        exact ih (i + 1) m1 _ (by omega) hS
  refine g_iconst (pc' := 1) (v := 0) rfl rfl (by decide) ?_
  refine g_istore_n (pc' := 2) rfl rfl rfl ?_
  refine g_iconst (pc' := 3) (v := 0) rfl rfl (by decide) ?_
  refine g_istore (pc' := 5) rfl rfl rfl ?_
  exact loop 10 0 m _ rfl SL.rf
/-- as KP, and the model's tables 66 to 70 may change too -/
def KM (m m' : aMem) : Prop := (∀ q, (q < 53 ∨ (59 ≤ q ∧ q ≤ 61) ∨ 70 < q) → m'.1 q = m.1 q) ∧ (∀ q, (q < 53 ∨ 73 ≤ q) → m'.2 q = m.2 q) ∧ ∀ i, i ≠ 5 → (i < 14 ∨ 34 < i) → m'.1 53 i = m.1 53 i
theorem KM.fr {m' : aMem} (h : KM m m') : Fr 53 73 m m' := ⟨fun q hq => h.1 q (by omega), fun q hq => h.2.1 q (by omega)⟩
theorem KM.mi {m' : aMem} (h : KM m m') (hM : MI m A) (hs : stAt m' 53 = aS A) : MI m' A := by
  obtain ⟨h1, h2, h3, h4, h5, h6⟩ := hM
  have e71 : m'.1 71 = m.1 71 := h.1 71 (by omega)
  have e72 : m'.1 72 = m.1 72 := h.1 72 (by omega)
  have im : ∀ k i, imM m k i → imM m' k i := fun k i hi => by
    cases i with
    | none => exact (congrFun e72 k).trans hi
    | some q =>
      refine ⟨(congrFun e72 k).trans hi.1, ?_, ?_⟩
      · rw [← hi.2.1]; unfold stK; rw [e71]
      · rw [← hi.2.2]; unfold sgK; rw [e71]
  refine ⟨hs, (h.2.2 10 (by decide) (by decide)).trans h2, ?_, ?_, im 0 _ h5, im 1 _ h6⟩
  · rw [h.1 61 (by omega)]; exact h3
  · rw [← h4]; unfold sgM
    rw [h.2.2 8 (by decide) (by decide), h.1 59 (by omega), h.1 60 (by omega)]
def SM (m m' : aMem) : Prop := (∀ q, q ≠ 53 → q ≠ 66 → m'.1 q = m.1 q) ∧ m'.2 = m.2 ∧ ∀ i, (i < 22 ∨ 24 < i) → m'.1 53 i = m.1 53 i
theorem SM.sl {m1 m2 : aMem} (h : SM m m1) (h' : SL m1 m2) : SM m m2 := ⟨fun q a b => (h'.1 q a).trans (h.1 q a b), h'.2.1.trans h.2.1, fun i a => (h'.2.2 i a).trans (h.2.2 i a)⟩
theorem SM.w {m1 : aMem} {k : Nat} {v : Int32} (h : SM m m1) : SM m (am_wi m1.1 66 k v, m1.2) := ⟨fun q a b => by show am_wi m1.1 66 k v q = _; rw [am_wi_n b]; exact h.1 q a b, h.2.1, fun i a => by show am_wi m1.1 66 k v 53 i = _; rw [am_wi_n (by decide)]; exact h.2.2 i a⟩
theorem SM.rf : SM m m := ⟨fun _ _ _ => rfl, rfl, fun _ _ => rfl⟩
theorem SM.kp {m' : aMem} (h : SM m m') : KM m m' := by
  refine ⟨fun q hq => ?_, fun q _ => congrFun h.2.1 q, fun i _ hi => h.2.2 i (by omega)⟩
  exact h.1 q (by omega) (by omega)
theorem SM.st {m' : aMem} (h : SM m m') : stAt m' 53 = stAt m 53 := by
  unfold stAt
  rw [h.2.2 5 (by decide), h.1 (53 + 1) (by decide) (by decide), h.1 (53 + 2) (by decide) (by decide), h.1 (53 + 3) (by decide) (by decide), h.1 (53 + 4) (by decide) (by decide), h.1 (53 + 5) (by decide) (by decide)]
theorem d_round {x w : Int32} (hM : MI m A) {Mx : Nat} (hW : WFs Mx (aS A)) (h : ∀ m', Fr 53 73 m m' → MI m' (r_round A x w).2 → K (r_round A x w).1 m') : gCi X 148 [.ref 53, .int x, .int w] m K := by
  refine g_inI rfl ?_
  have es := hM.1
  refine g_iload_n (pc' := 1) rfl rfl rfl ?_
  refine g_calli (pc' := 4) rfl rfl rfl rfl (Or.inl rfl) ?_
  refine d_isNut (fun k hk ek => ?_) (fun x0 => ?_)
  · refine g_if_ne (pc' := 7) (t := 9) rfl rfl rfl (fun _ => ?_) (fun c => absurd c (by decide))
    refine g_iload_n (pc' := 10) rfl rfl rfl ?_
    refine g_i2l (pc' := 11) rfl rfl ?_
    refine g_lconst (pc' := 12) (v := 0) rfl rfl (by decide) ?_
    refine g_lconst (pc' := 13) (v := 1) rfl rfl (by decide) ?_
    refine g_calli (pc' := 16) rfl rfl rfl rfl (Or.inl rfl) ?_
    refine d_in (lo := 0) (hi := 1) (by decide) (by decide) (fun u1 u2 => ?_) (fun u0 => ?_)
    · refine g_if_ne (pc' := 19) (t := 22) rfl rfl rfl (fun _ => ?_) (fun c => absurd c (by decide))
      refine g_aload_n (pc' := 23) rfl rfl rfl ?_
      refine g_iload_n (pc' := 24) rfl rfl rfl ?_
      refine g_calli (pc' := 27) rfl rfl rfl rfl (Or.inr rfl) ?_
      refine (ek ▸ d_isBroken hk (fun q => ?_) (fun q => ?_))
      · refine g_if_eq (pc' := 30) (t := 33) rfl rfl rfl (fun c => absurd c (by decide)) (fun _ => ?_)
        refine g_bipush (pc' := 32) (v := -6) rfl rfl (by decide) ?_
        exact g_ireturn rfl rfl (mf h (by unfold r_round; rw [if_neg (nn (by rw [ek]; exact rn_9 hk)), if_neg (nn ⟨u1, u2⟩), if_pos (by rw [ek, ix_nI (by omega), ← es]; exact q)]) Fr.rf hM)
      · refine g_if_eq (pc' := 30) (t := 33) rfl rfl rfl (fun _ => ?_) (fun c => absurd c (by decide))
        rw [es] at q
        obtain ⟨c0, hc0, ec0⟩ := hW.live hk q
        have er : r_round A x w = (if w = 0 then nI (pcN (moN (tD (aS A) k c0) 1024)) else nI (moN (tD (aS A) k c0) 1024), A) := by unfold r_round; rw [if_neg (nn (by rw [ek]; exact rn_9 hk)), if_neg (nn ⟨u1, u2⟩), ek, ix_nI (by omega), if_neg q, ec0, ix_nI (by omega)]
        subst ek
        refine g_iconst (pc' := 34) (v := 0) rfl rfl (by decide) ?_
        refine g_istore_n (pc' := 35) rfl rfl rfl ?_
        refine g_aload_n (pc' := 36) rfl rfl rfl ?_
        refine g_getr (pc' := 39) rfl rfl (f_11_25) ?_
        refine g_iconst (pc' := 40) (v := 0) rfl rfl (by decide) ?_
        refine g_iconst (pc' := 41) (v := 1) rfl rfl (by decide) ?_
        refine g_aload_n (pc' := 42) rfl rfl rfl ?_
        refine g_getr (pc' := 45) rfl rfl (f_11_1) ?_
        refine g_iload_n (pc' := 46) rfl rfl rfl ?_
        refine g_iald (pc' := 47) rfl rfl (a_55) hk rfl ?_
        refine g_vi (y := nI c0) (by rw [r_C hk, es]; exact ec0) ?_
        refine g_ishl (pc' := 48) rfl rfl ?_
        refine g_vi (y := nI (2 ^ c0)) (bit_nI (by omega)) ?_
        refine g_iast (pc' := 49) rfl rfl (a_66) (k := 0) (by decide) rfl ?_
        refine g_iconst (pc' := 50) (v := 1) rfl rfl (by decide) ?_
        refine g_istore (pc' := 52) rfl rfl rfl ?_
        have loop : ∀ (d i : Nat) (m1 : aMem), i + d = 1024 → 1 ≤ i → SM m m1 → (∀ T, T < i → m1.1 66 T = nI ((tD (aS A) k c0) T)) → gG X 148 52 [.ref 53, .int (nI k), .int w, .int (nI (moN (tD (aS A) k c0) i)), .int (nI i)] [] m1 (fun r m' => ∃ v, r = some (.int v) ∧ K v m') := by
          intro d
          induction d with
          | zero =>
            intro i m1 hd h1 hS hT66
            have hi : i = 1024 := by omega
            subst hi
            refine g_iload (pc' := 54) rfl rfl rfl ?_
            refine g_sipush (pc' := 57) (v := 1024) rfl rfl (by decide) ?_
            refine g_icmp_ge (pc' := 60) (t := 109) rfl rfl rfl (fun c_57 => ?_) (fun c_57 => absurd (by decide) c_57)
            refine g_iload_n (pc' := 110) rfl rfl rfl ?_
            refine g_if_ne (pc' := 113) (t := 120) rfl rfl rfl (fun c_110 => ?_) (fun c_110 => ?_)
            · refine g_iload_n (pc' := 121) rfl rfl rfl ?_
              exact g_ireturn rfl rfl (g_eq (mf h er hS.kp.fr (hS.kp.mi hM (hS.st.trans es))) (by rw [if_neg c_110]) rfl)
            · refine g_iload_n (pc' := 114) rfl rfl rfl ?_
              refine g_calli (pc' := 117) rfl rfl rfl rfl (Or.inl rfl) ?_
              refine d_ones (moN_lt _ (Nat.le_refl _)) ?_
              refine g_goto (pc' := 121) rfl rfl ?_
              exact g_ireturn rfl rfl (g_eq (mf h er hS.kp.fr (hS.kp.mi hM (hS.st.trans es))) (by rw [if_pos c_110]) rfl)
          | succ d ih =>
            intro i m1 hd h1 hS hT66
            have hlt : i < 1024 := by omega
            refine g_iload (pc' := 54) rfl rfl rfl ?_
            refine g_sipush (pc' := 57) (v := 1024) rfl rfl (by decide) ?_
            refine g_icmp_ge (pc' := 60) (t := 109) rfl rfl rfl (fun c_57 => absurd c_57 (nI_ge (b := 1024) hlt (by decide))) (fun c_57 => ?_)
            refine g_aload_n (pc' := 61) rfl rfl rfl ?_
            refine g_getr (pc' := 64) rfl rfl (f_11_25) ?_
            refine g_iload (pc' := 66) rfl rfl rfl ?_
            refine g_aload_n (pc' := 67) rfl rfl rfl ?_
            refine g_iload_n (pc' := 68) rfl rfl rfl ?_
            refine g_iload (pc' := 70) rfl rfl rfl ?_
            refine g_calli (pc' := 73) rfl rfl rfl rfl (Or.inr rfl) ?_
            refine d_leftBy (D := (tD (aS A) k c0)) hk (by omega) (by rw [hS.st, es]; exact hW) (fun T hT => ⟨hT66 T hT, tD_lt hc0⟩) (fun m2 s2 => ?_)
            rw [hS.st, es, ← tD_s (c0 := c0) (show i ≠ 0 by omega)]
            refine g_iast (pc' := 74) rfl rfl (a_66) (k := i) (by omega) rfl ?_
            refine g_aload_n (pc' := 75) rfl rfl rfl ?_
            refine g_getr (pc' := 78) rfl rfl (f_11_25) ?_
            refine g_iload (pc' := 80) rfl rfl rfl ?_
            refine g_iald (pc' := 81) rfl rfl (a_66) (k := i) (by omega) rfl ?_
            refine g_vi (y := nI ((tD (aS A) k c0) i)) (by show am_wi m2.1 66 i (nI ((tD (aS A) k c0) i)) 66 i = _; rw [am_wi_s, upd_at]) ?_
            have h8 := tD_lt (s := aS A) (x := k) (S := i) hc0
            have hml := moN_lt (D := (tD (aS A) k c0)) i (by omega)
            refine g_if_eq (pc' := 84) (t := 101) rfl rfl rfl (fun c_81 => ?_) (fun c_81 => ?_)
            · refine g_iload_n (pc' := 102) rfl rfl rfl ?_
              refine g_istore_n (pc' := 103) rfl rfl rfl ?_
              refine g_iinc (pc' := 106) (v := nI (i + 1)) rfl rfl rfl (nI_1 i) rfl ?_
              refine g_goto (pc' := 52) rfl rfl ?_
              have e : moN (tD (aS A) k c0) (i + 1) = moN (tD (aS A) k c0) i := by
                show moS (tD (aS A) k c0) i (moN (tD (aS A) k c0) i) = _
                unfold moS; rw [if_neg (fun z => z.1 ((nI_eq (b := 0) (by omega) (by decide)).mp c_81))]
              have hh := ih (i + 1) (am_wi m2.1 66 i (nI ((tD (aS A) k c0) i)), m2.2) (by omega) (by omega) (hS.sl s2).w (fun T hT => by
                show am_wi m2.1 66 i (nI ((tD (aS A) k c0) i)) 66 T = _
                rw [am_wi_s]
                by_cases e2 : T = i
                · subst e2; rw [upd_at]
                · rw [upd_ne e2, s2.1 66 (by decide)]; exact hT66 T (by omega))
              rw [e] at hh
              exact hh
            · refine g_iload (pc' := 86) rfl rfl rfl ?_
              refine g_calli (pc' := 89) rfl rfl rfl rfl (Or.inl rfl) ?_
              refine d_ones (by omega) ?_
              refine g_iload_n (pc' := 90) rfl rfl rfl ?_
              refine g_calli (pc' := 93) rfl rfl rfl rfl (Or.inl rfl) ?_
              refine d_ones hml ?_
              have hp1 := pcF_le 10 i
              have hp2 := pcF_le 10 (moN (tD (aS A) k c0) i)
              refine g_icmp_le (pc' := 96) (t := 101) rfl rfl rfl (fun c_93 => ?_) (fun c_93 => ?_)
              · refine g_iload_n (pc' := 102) rfl rfl rfl ?_
                refine g_istore_n (pc' := 103) rfl rfl rfl ?_
                refine g_iinc (pc' := 106) (v := nI (i + 1)) rfl rfl rfl (nI_1 i) rfl ?_
                refine g_goto (pc' := 52) rfl rfl ?_
                have e : moN (tD (aS A) k c0) (i + 1) = moN (tD (aS A) k c0) i := by
                  show moS (tD (aS A) k c0) i (moN (tD (aS A) k c0) i) = _
                  unfold moS; rw [if_neg (fun z => nI_ge z.2 (by unfold pcN; omega) c_93)]
                have hh := ih (i + 1) (am_wi m2.1 66 i (nI ((tD (aS A) k c0) i)), m2.2) (by omega) (by omega) (hS.sl s2).w (fun T hT => by
                  show am_wi m2.1 66 i (nI ((tD (aS A) k c0) i)) 66 T = _
                  rw [am_wi_s]
                  by_cases e2 : T = i
                  · subst e2; rw [upd_at]
                  · rw [upd_ne e2, s2.1 66 (by decide)]; exact hT66 T (by omega))
                rw [e] at hh
                exact hh
              · refine g_iload (pc' := 98) rfl rfl rfl ?_
                refine g_goto (pc' := 102) rfl rfl ?_
                refine g_istore_n (pc' := 103) rfl rfl rfl ?_
                refine g_iinc (pc' := 106) (v := nI (i + 1)) rfl rfl rfl (nI_1 i) rfl ?_
                refine g_goto (pc' := 52) rfl rfl ?_
                have e : moN (tD (aS A) k c0) (i + 1) = i := by
                  show moS (tD (aS A) k c0) i (moN (tD (aS A) k c0) i) = _
                  unfold moS; rw [if_pos ⟨fun z => c_81 (by rw [z]; rfl), Nat.not_le.mp (fun z => c_93 (nI_le z (by unfold pcN; omega)))⟩]
                have hh := ih (i + 1) (am_wi m2.1 66 i (nI ((tD (aS A) k c0) i)), m2.2) (by omega) (by omega) (hS.sl s2).w (fun T hT => by
                  show am_wi m2.1 66 i (nI ((tD (aS A) k c0) i)) 66 T = _
                  rw [am_wi_s]
                  by_cases e2 : T = i
                  · subst e2; rw [upd_at]
                  · rw [upd_ne e2, s2.1 66 (by decide)]; exact hT66 T (by omega))
                rw [e] at hh
                exact hh
        have hh := loop 1023 1 (am_wi m.1 66 0 (nI (2 ^ c0)), m.2) rfl (by decide) SM.rf.w (fun T hT => by
          have e : T = 0 := by omega
          subst e
          show am_wi m.1 66 0 (nI (2 ^ c0)) 66 0 = _
          rw [am_wi_s, upd_at, tD_0])
        rw [show moN (tD (aS A) k c0) 1 = 0 by show moS _ 0 0 = 0; unfold moS; split <;> rfl] at hh
        exact hh
    · refine g_if_ne (pc' := 19) (t := 22) rfl rfl rfl (fun c => absurd c (by decide)) (fun _ => ?_)
      refine g_bipush (pc' := 21) (v := -2) rfl rfl (by decide) ?_
      exact g_ireturn rfl rfl (mf h (by unfold r_round; rw [if_neg (nn (by rw [ek]; exact rn_9 hk)), if_pos u0]) Fr.rf hM)
  · refine g_if_ne (pc' := 7) (t := 9) rfl rfl rfl (fun c => absurd c (by decide)) (fun _ => ?_)
    refine g_iconst (pc' := 8) (v := -1) rfl rfl (by decide) ?_
    exact g_ireturn rfl rfl (mf h (by unfold r_round; rw [if_pos x0]) Fr.rf hM)
end R1
