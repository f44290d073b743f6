/-! ROUNDS: the class -/
def ush (x k : Int32) : Int32 := (x.toUInt32 >>> (k.toUInt32 &&& Int32.toUInt32 31)).toInt32
def b1 (x : Int32) : Int32 := x - (ush x 1 &&& 1431655765)
def b2 (x : Int32) : Int32 := (x &&& 858993459) + (ush x 2 &&& 858993459)
def b3 (x : Int32) : Int32 := (x + ush x 4) &&& 252645135
def b4 (x : Int32) : Int32 := x + ush x 8
def b5 (x : Int32) : Int32 := x + ush x 16
def bcI (x : Int32) : Int32 := b5 (b4 (b3 (b2 (b1 x)))) &&& 63
theorem bc_pc : ∀ v, v < 1024 → bcI (nI v) = nI (pcN v) := by decide +kernel
section R2
variable {X : aX} {m : aMem} {A : aA} {K : Int32 → aMem → Prop}
theorem c_bc {v : Nat} (hv : v < 1024) (h : K (nI (pcN v)) m) : gCi X 178 [.int (nI v)] m K := by
  refine g_inI rfl ?_
  refine g_iload_n (pc' := 1) rfl rfl rfl ?_
  refine g_iload_n (pc' := 2) rfl rfl rfl ?_
  refine g_iconst (pc' := 3) (v := 1) rfl rfl (by decide) ?_
  refine g_iushr (pc' := 4) rfl rfl ?_
  refine g_ldc_w (pc' := 7) (v := 1431655765) rfl rfl (by decide) ?_
  refine g_iand (pc' := 8) rfl rfl ?_
  refine g_isub (pc' := 9) rfl rfl ?_
  refine g_istore_n (pc' := 10) rfl rfl rfl ?_
  refine g_iload_n (pc' := 11) rfl rfl rfl ?_
  refine g_ldc_w (pc' := 14) (v := 858993459) rfl rfl (by decide) ?_
  refine g_iand (pc' := 15) rfl rfl ?_
  refine g_iload_n (pc' := 16) rfl rfl rfl ?_
  refine g_iconst (pc' := 17) (v := 2) rfl rfl (by decide) ?_
  refine g_iushr (pc' := 18) rfl rfl ?_
  refine g_ldc_w (pc' := 21) (v := 858993459) rfl rfl (by decide) ?_
  refine g_iand (pc' := 22) rfl rfl ?_
  refine g_iadd (pc' := 23) rfl rfl ?_
  refine g_istore_n (pc' := 24) rfl rfl rfl ?_
  refine g_iload_n (pc' := 25) rfl rfl rfl ?_
  refine g_iload_n (pc' := 26) rfl rfl rfl ?_
  refine g_iconst (pc' := 27) (v := 4) rfl rfl (by decide) ?_
  refine g_iushr (pc' := 28) rfl rfl ?_
  refine g_iadd (pc' := 29) rfl rfl ?_
  refine g_ldc_w (pc' := 32) (v := 252645135) rfl rfl (by decide) ?_
  refine g_iand (pc' := 33) rfl rfl ?_
  refine g_istore_n (pc' := 34) rfl rfl rfl ?_
  refine g_iload_n (pc' := 35) rfl rfl rfl ?_
  refine g_iload_n (pc' := 36) rfl rfl rfl ?_
  refine g_bipush (pc' := 38) (v := 8) rfl rfl (by decide) ?_
  refine g_iushr (pc' := 39) rfl rfl ?_
  refine g_iadd (pc' := 40) rfl rfl ?_
  refine g_istore_n (pc' := 41) rfl rfl rfl ?_
  refine g_iload_n (pc' := 42) rfl rfl rfl ?_
  refine g_iload_n (pc' := 43) rfl rfl rfl ?_
  refine g_bipush (pc' := 45) (v := 16) rfl rfl (by decide) ?_
  refine g_iushr (pc' := 46) rfl rfl ?_
  refine g_iadd (pc' := 47) rfl rfl ?_
  refine g_istore_n (pc' := 48) rfl rfl rfl ?_
  refine g_iload_n (pc' := 49) rfl rfl rfl ?_
  refine g_bipush (pc' := 51) (v := 63) rfl rfl (by decide) ?_
  refine g_iand (pc' := 52) rfl rfl ?_
  exact g_ireturn rfl rfl (g_eq h (by rw [← bc_pc v hv]; rfl) rfl)
theorem ao_le {Mx : Nat} {s : aStr} {x o c : Nat} (hW : WFs Mx s) (ho : o < 10) (hc : c < 3) : aoN s x o c ≤ 3 := by
  by_cases h : o ≠ x ∧ ¬ sC s o = 3
  · obtain ⟨co, hco, e, ea⟩ := ao_op (c := c) hW ho h.1 h.2
    obtain ⟨hO, -, -, -⟩ := ft_out (s := s) (a := x) (b := o) 5 0 c co (by omega) (by omega) (by omega) (by omega)
    rw [ea]; omega
  · rw [ao_cl h]; exact Nat.le_refl _
/-- the fights of `x` against `o` lie in the table -/
def AF (m : aMem) (s : aStr) (x o : Nat) : Prop := ∀ c, c < 3 → m.1 19 (3 * o + c) = nI (aoN s x o c)
theorem c_tryFights {K : aMem → Prop} {x o Mx : Nat} (hx : x < 10) (ho : o < 10) (hW : WFs Mx (stAt m 2)) (h : ∀ m', Fr 19 20 m m' → AF m' (stAt m 2) x o → (∀ k, (k < 3 * o ∨ 3 * o + 3 ≤ k) → m'.1 19 k = m.1 19 k) → K m') : gCv X 36 [.ref 17, .ref 2, .int (nI x), .int (nI o)] m K := by
  refine g_inV rfl ?_
  have cl : ¬ (o ≠ x ∧ ¬ sC (stAt m 2) o = 3) → ∀ v6 v7, gG X 36 23 [.ref 17, .ref 2, .int (nI x), .int (nI o), .int 0, .int (nI 0), v6, v7] [] m (fun r m' => r = none ∧ K m') := by
    intro hc v6 v7
    have hcl : ∀ {c}, aoN (stAt m 2) x o c = 3 := fun {c} => ao_cl hc c
    have loop : ∀ (d i : Nat) (m1 : aMem) (v6 v7 : Value), i + d = 3 → Fr 19 20 m m1 → (∀ c, c < i → m1.1 19 (3 * o + c) = nI (aoN (stAt m 2) x o c)) → (∀ k, (k < 3 * o ∨ 3 * o + 3 ≤ k) → m1.1 19 k = m.1 19 k) → gG X 36 23 [.ref 17, .ref 2, .int (nI x), .int (nI o), .int 0, .int (nI i), v6, v7] [] m1 (fun r m' => r = none ∧ K m') := by
      intro d
      induction d with
      | zero =>
        intro i m1 v6 v7 hd hF hA hk
        have hi : i = 3 := by omega
        subst hi
        refine g_iload (pc' := 25) rfl rfl rfl ?_
        refine g_iconst (pc' := 26) (v := 3) rfl rfl (by decide) ?_
        refine g_icmp_ge (pc' := 29) (t := 93) rfl rfl rfl (fun c_26 => ?_) (fun c_26 => absurd (by decide) c_26)
        exact g_return rfl rfl (h m1 hF hA hk)
      | succ d ih =>
        intro i m1 v6 v7 hd hF hA hk
        have hlt : i < 3 := by omega
        refine g_iload (pc' := 25) rfl rfl rfl ?_
        refine g_iconst (pc' := 26) (v := 3) rfl rfl (by decide) ?_
        refine g_icmp_ge (pc' := 29) (t := 93) rfl rfl rfl (fun c_26 => absurd c_26 (nI_ge (b := 3) hlt (by decide))) (fun c_26 => ?_)
        refine g_iconst (pc' := 30) (v := 3) rfl rfl (by decide) ?_
        refine g_istore (pc' := 32) rfl rfl rfl ?_
        refine g_iload (pc' := 34) rfl rfl rfl ?_
        refine g_if_eq (pc' := 37) (t := 74) rfl rfl rfl (fun _ => ?_) (fun c => absurd c (by decide))
        refine g_aload_n (pc' := 75) rfl rfl rfl ?_
        refine g_getr (pc' := 78) rfl rfl (f_5_1) ?_
        refine g_iconst (pc' := 79) (v := 3) rfl rfl (by decide) ?_
        refine g_iload_n (pc' := 80) rfl rfl rfl ?_
        refine g_imul (pc' := 81) rfl rfl ?_
        refine g_vi (y := nI (3 * o)) (pk_mul 3 o) ?_
        refine g_iload (pc' := 83) rfl rfl rfl ?_
        refine g_iadd (pc' := 84) rfl rfl ?_
        refine g_vi (y := nI (3 * o + i)) (nI_add _ _) ?_
        refine g_iload (pc' := 86) rfl rfl rfl ?_
        refine g_iast (pc' := 87) rfl rfl (a_19) (k := 3 * o + i) (by omega) rfl ?_
        refine g_iinc (pc' := 90) (v := nI (i + 1)) rfl rfl rfl (nI_1 i) rfl ?_
        refine g_goto (pc' := 23) rfl rfl ?_
        exact ih (i + 1) _ _ _ (by omega) (hF.s (by omega) (by omega)) (fun c hc => by
          show am_wi m1.1 19 (3 * o + i) (nI 3) 19 (3 * o + c) = _
          rw [am_wi_s]
          by_cases e : c = i
          · subst e; rw [upd_at, hcl]
          · rw [upd_ne (by omega)]; exact hA c (by omega)) (fun k hk2 => by
          show am_wi m1.1 19 (3 * o + i) (nI 3) 19 k = _
          rw [am_wi_s, upd_ne (by omega)]; exact hk k hk2)
    exact loop 3 0 m v6 v7 rfl Fr.rf (fun c hc => absurd hc (by omega)) (fun _ _ => rfl)
  have op : (o ≠ x ∧ ¬ sC (stAt m 2) o = 3) → ∀ v6 v7, gG X 36 23 [.ref 17, .ref 2, .int (nI x), .int (nI o), .int 1, .int (nI 0), v6, v7] [] m (fun r m' => r = none ∧ K m') := by
    intro hop v6 v7
    have loop : ∀ (d i : Nat) (m1 : aMem) (v6 v7 : Value), i + d = 3 → Fr 19 20 m m1 → (∀ c, c < i → m1.1 19 (3 * o + c) = nI (aoN (stAt m 2) x o c)) → (∀ k, (k < 3 * o ∨ 3 * o + 3 ≤ k) → m1.1 19 k = m.1 19 k) → gG X 36 23 [.ref 17, .ref 2, .int (nI x), .int (nI o), .int 1, .int (nI i), v6, v7] [] m1 (fun r m' => r = none ∧ K m') := by
      intro d
      induction d with
      | zero =>
        intro i m1 v6 v7 hd hF hA hk
        have hi : i = 3 := by omega
        subst hi
        refine g_iload (pc' := 25) rfl rfl rfl ?_
        refine g_iconst (pc' := 26) (v := 3) rfl rfl (by decide) ?_
        refine g_icmp_ge (pc' := 29) (t := 93) rfl rfl rfl (fun c_26 => ?_) (fun c_26 => absurd (by decide) c_26)
        exact g_return rfl rfl (h m1 hF hA hk)
      | succ d ih =>
        intro i m1 v6 v7 hd hF hA hk
        have hlt : i < 3 := by omega
        refine g_iload (pc' := 25) rfl rfl rfl ?_
        refine g_iconst (pc' := 26) (v := 3) rfl rfl (by decide) ?_
        refine g_icmp_ge (pc' := 29) (t := 93) rfl rfl rfl (fun c_26 => absurd c_26 (nI_ge (b := 3) hlt (by decide))) (fun c_26 => ?_)
        refine g_iconst (pc' := 30) (v := 3) rfl rfl (by decide) ?_
        refine g_istore (pc' := 32) rfl rfl rfl ?_
        refine g_iload (pc' := 34) rfl rfl rfl ?_
        refine g_if_eq (pc' := 37) (t := 74) rfl rfl rfl (fun c => absurd c (by decide)) (fun _ => ?_)
        obtain ⟨co, hco, eco, eao⟩ := ao_op (c := i) hW ho hop.1 hop.2
        obtain ⟨hO, -, -, -⟩ := ft_out (s := stAt m 2) (a := x) (b := o) 5 0 i co (by omega) (by omega) (by omega) (by omega)
        have hD := (ft_duel (s := stAt m 2) (a := x) (b := o) 5 0 i co hlt hco (by omega)).1 rfl
        have es : stAt m1 2 = stAt m 2 := hF.st (p := 2) (by omega)
        generalize hRR : ftN (stAt m 2) x o 5 0 i co = R at *
        obtain ⟨R1, R2, R3⟩ := R
        dsimp only at *
        have hcw : ∃ wn cw, wn < 10 ∧ cw < 3 ∧ winF x o (R1, R2, R3) = 4 * wn + cw ∧ ((R1 < 3 ∧ wn = x ∧ cw = R1) ∨ (R1 = 3 ∧ wn = o)) := by
          unfold winF
          by_cases z : R1 < 3
          · exact ⟨x, R1, hx, z, if_pos z, Or.inl ⟨z, rfl, rfl⟩⟩
          · exact ⟨o, R2, ho, by omega, if_neg z, Or.inr ⟨by omega, rfl⟩⟩
        obtain ⟨wn, cw, hwn, hcw, hwf, hws⟩ := hcw
        refine g_aload_n (pc' := 38) rfl rfl rfl ?_
        refine g_iload_n (pc' := 39) rfl rfl rfl ?_
        refine g_iload (pc' := 41) rfl rfl rfl ?_
        refine g_calli (pc' := 44) rfl rfl rfl rfl (Or.inl rfl) ?_
        refine c_fighterWith ?_
        refine g_aload_n (pc' := 45) rfl rfl rfl ?_
        refine g_iload_n (pc' := 46) rfl rfl rfl ?_
        refine g_calli (pc' := 49) rfl rfl rfl rfl (Or.inr (rc_S isS_2)) ?_
        refine c_fighterOf isS_2 ho (by rw [es]; exact eco) ?_
        refine g_calli (pc' := 52) rfl rfl rfl rfl (Or.inr (rc_S isS_2)) ?_
        refine c_duel isS_2 hx hlt ho hco ?_
        rw [es, hD, hwf]
        refine g_istore (pc' := 54) rfl rfl rfl ?_
        refine g_iload (pc' := 56) rfl rfl rfl ?_
        refine g_calli (pc' := 59) rfl rfl rfl rfl (Or.inl rfl) ?_
        refine c_nutOf (by omega) (by omega) ?_
        refine g_iload_n (pc' := 60) rfl rfl rfl ?_
        refine g_icmp_ne (pc' := 63) (t := 71) rfl rfl rfl (fun c_60 => ?_) (fun c_60 => ?_)
        · refine g_iconst (pc' := 72) (v := 3) rfl rfl (by decide) ?_
          refine g_istore (pc' := 74) rfl rfl rfl ?_
          refine g_aload_n (pc' := 75) rfl rfl rfl ?_
          refine g_getr (pc' := 78) rfl rfl (f_5_1) ?_
          refine g_iconst (pc' := 79) (v := 3) rfl rfl (by decide) ?_
          refine g_iload_n (pc' := 80) rfl rfl rfl ?_
          refine g_imul (pc' := 81) rfl rfl ?_
          refine g_vi (y := nI (3 * o)) (pk_mul 3 o) ?_
          refine g_iload (pc' := 83) rfl rfl rfl ?_
          refine g_iadd (pc' := 84) rfl rfl ?_
          refine g_vi (y := nI (3 * o + i)) (nI_add _ _) ?_
          refine g_iload (pc' := 86) rfl rfl rfl ?_
          refine g_iast (pc' := 87) rfl rfl (a_19) (k := 3 * o + i) (by omega) rfl ?_
          refine g_iinc (pc' := 90) (v := nI (i + 1)) rfl rfl rfl (nI_1 i) rfl ?_
          refine g_goto (pc' := 23) rfl rfl ?_
          have hr2 : aoN (stAt m 2) x o i = 3 := by
            rw [eao]
            rcases hws with ⟨_, z, _⟩ | ⟨z, _⟩
            · exact absurd (by rw [z]) c_60
            · exact z
          exact ih (i + 1) _ _ _ (by omega) (hF.s (by omega) (by omega)) (fun c hc => by
            show am_wi m1.1 19 (3 * o + i) (nI 3) 19 (3 * o + c) = _
            rw [am_wi_s]
            by_cases e : c = i
            · subst e; rw [upd_at, hr2]
            · rw [upd_ne (by omega)]; exact hA c (by omega)) (fun k hk2 => by
            show am_wi m1.1 19 (3 * o + i) (nI 3) 19 k = _
            rw [am_wi_s, upd_ne (by omega)]; exact hk k hk2)
        · refine g_iload (pc' := 65) rfl rfl rfl ?_
          refine g_calli (pc' := 68) rfl rfl rfl rfl (Or.inl rfl) ?_
          refine c_cracksOf (by omega) (by omega) ?_
          refine g_goto (pc' := 72) rfl rfl ?_
          refine g_istore (pc' := 74) rfl rfl rfl ?_
          refine g_aload_n (pc' := 75) rfl rfl rfl ?_
          refine g_getr (pc' := 78) rfl rfl (f_5_1) ?_
          refine g_iconst (pc' := 79) (v := 3) rfl rfl (by decide) ?_
          refine g_iload_n (pc' := 80) rfl rfl rfl ?_
          refine g_imul (pc' := 81) rfl rfl ?_
          refine g_vi (y := nI (3 * o)) (pk_mul 3 o) ?_
          refine g_iload (pc' := 83) rfl rfl rfl ?_
          refine g_iadd (pc' := 84) rfl rfl ?_
          refine g_vi (y := nI (3 * o + i)) (nI_add _ _) ?_
          refine g_iload (pc' := 86) rfl rfl rfl ?_
          refine g_iast (pc' := 87) rfl rfl (a_19) (k := 3 * o + i) (by omega) rfl ?_
          refine g_iinc (pc' := 90) (v := nI (i + 1)) rfl rfl rfl (nI_1 i) rfl ?_
          refine g_goto (pc' := 23) rfl rfl ?_
          have hr : wn = x := (nI_eq (by omega) (by omega)).mp c_60
          have hr2 : aoN (stAt m 2) x o i = cw := by
            rw [eao]
            rcases hws with ⟨_, _, z⟩ | ⟨_, z⟩
            · exact z.symm
            · exact absurd (z.symm.trans hr) hop.1
          exact ih (i + 1) _ _ _ (by omega) (hF.s (by omega) (by omega)) (fun c hc => by
            show am_wi m1.1 19 (3 * o + i) (nI cw) 19 (3 * o + c) = _
            rw [am_wi_s]
            by_cases e : c = i
            · subst e; rw [upd_at, hr2]
            · rw [upd_ne (by omega)]; exact hA c (by omega)) (fun k hk2 => by
            show am_wi m1.1 19 (3 * o + i) (nI cw) 19 k = _
            rw [am_wi_s, upd_ne (by omega)]; exact hk k hk2)
    exact loop 3 0 m v6 v7 rfl Fr.rf (fun c hc => absurd hc (by omega)) (fun _ _ => rfl)
  refine g_iload_n (pc' := 1) rfl rfl rfl ?_
  refine g_iload_n (pc' := 2) rfl rfl rfl ?_
  refine g_icmp_eq (pc' := 5) (t := 17) rfl rfl rfl (fun c_2 => ?_) (fun c_2 => ?_)
  · refine g_iconst (pc' := 18) (v := 0) rfl rfl (by decide) ?_
    refine g_istore (pc' := 20) rfl rfl rfl ?_
    refine g_iconst (pc' := 21) (v := 0) rfl rfl (by decide) ?_
    refine g_istore (pc' := 23) rfl rfl rfl ?_
    exact cl (fun z => z.1 ((nI_eq (by omega) (by omega)).mp c_2)) _ _
  · refine g_aload_n (pc' := 6) rfl rfl rfl ?_
    refine g_iload_n (pc' := 7) rfl rfl rfl ?_
    refine g_calli (pc' := 10) rfl rfl rfl rfl (Or.inr (rc_S isS_2)) ?_
    refine c_isBroken isS_2 ho (fun q => ?_) (fun q => ?_)
    · refine g_if_ne (pc' := 13) (t := 17) rfl rfl rfl (fun _ => ?_) (fun c => absurd c (by decide))
      refine g_iconst (pc' := 18) (v := 0) rfl rfl (by decide) ?_
      refine g_istore (pc' := 20) rfl rfl rfl ?_
      refine g_iconst (pc' := 21) (v := 0) rfl rfl (by decide) ?_
      refine g_istore (pc' := 23) rfl rfl rfl ?_
      exact cl (fun z => z.2 q) _ _
    · refine g_if_ne (pc' := 13) (t := 17) rfl rfl rfl (fun c => absurd c (by decide)) (fun _ => ?_)
      refine g_iconst (pc' := 14) (v := 1) rfl rfl (by decide) ?_
      refine g_goto (pc' := 18) rfl rfl ?_
      refine g_istore (pc' := 20) rfl rfl rfl ?_
      refine g_iconst (pc' := 21) (v := 0) rfl rfl (by decide) ?_
      refine g_istore (pc' := 23) rfl rfl rfl ?_
      exact op ⟨fun z => c_2 (by rw [z]), q⟩ _ _
theorem c_cracksAfter {s : aStr} {x o v Mx : Nat} (ho : o < 10) (hv : v < 8) (hA : AF m s x o) (hW : WFs Mx s) (h : K (nI (stepN (aoN s x o) v)) m) : gCi X 38 [.ref 17, .int (nI v), .int (nI o)] m K := by
  refine g_inI rfl ?_
  have loop : ∀ (d i : Nat) (v5 : Value), i + d = 3 → gG X 38 5 [.ref 17, .int (nI v), .int (nI o), .int (nI (fN (stN (aoN s x o) v) i 0)), .int (nI i), v5] [] m (fun r m' => ∃ v, r = some (.int v) ∧ K v m') := by
    intro d
    induction d with
    | zero =>
      intro i v5 hd
      have hi : i = 3 := by omega
      subst hi
      refine g_iload (pc' := 7) rfl rfl rfl ?_
      refine g_iconst (pc' := 8) (v := 3) rfl rfl (by decide) ?_
      refine g_icmp_ge (pc' := 11) (t := 53) rfl rfl rfl (fun c_8 => ?_) (fun c_8 => absurd (by decide) c_8)
      refine g_iload_n (pc' := 54) rfl rfl rfl ?_
      exact g_ireturn rfl rfl (h)
    | succ d ih =>
      intro i v5 hd
      have hlt : i < 3 := by omega
      refine g_iload (pc' := 7) rfl rfl rfl ?_
      refine g_iconst (pc' := 8) (v := 3) rfl rfl (by decide) ?_
      refine g_icmp_ge (pc' := 11) (t := 53) rfl rfl rfl (fun c_8 => absurd c_8 (nI_ge (b := 3) hlt (by decide))) (fun c_8 => ?_)
      refine g_aload_n (pc' := 12) rfl rfl rfl ?_
      refine g_getr (pc' := 15) rfl rfl (f_5_1) ?_
      refine g_iconst (pc' := 16) (v := 3) rfl rfl (by decide) ?_
      refine g_iload_n (pc' := 17) rfl rfl rfl ?_
      refine g_imul (pc' := 18) rfl rfl ?_
      refine g_vi (y := nI (3 * o)) (pk_mul 3 o) ?_
      refine g_iload (pc' := 20) rfl rfl rfl ?_
      refine g_iadd (pc' := 21) rfl rfl ?_
      refine g_vi (y := nI (3 * o + i)) (nI_add _ _) ?_
      refine g_iald (pc' := 22) rfl rfl (a_19) (k := 3 * o + i) (by omega) rfl ?_
      refine g_vi (y := nI (aoN s x o i)) (hA i hlt) ?_
      have ha3 := ao_le (x := x) hW ho hlt
      refine g_istore (pc' := 24) rfl rfl rfl ?_
      refine g_iload_n (pc' := 25) rfl rfl rfl ?_
      refine g_iload (pc' := 27) rfl rfl rfl ?_
      refine g_ishr (pc' := 28) rfl rfl ?_
      refine g_iconst (pc' := 29) (v := 1) rfl rfl (by decide) ?_
      refine g_iand (pc' := 30) rfl rfl ?_
      refine g_iconst (pc' := 31) (v := 1) rfl rfl (by decide) ?_
      refine g_icmp_ne (pc' := 34) (t := 47) rfl rfl rfl (fun c_31 => ?_) (fun c_31 => ?_)
      · refine g_iinc (pc' := 50) (v := nI (i + 1)) rfl rfl rfl (nI_1 i) rfl ?_
        refine g_goto (pc' := 5) rfl rfl ?_
        have e : fN (stN (aoN s x o) v) (i + 1) 0 = fN (stN (aoN s x o) v) i 0 := by rw [fN]; exact if_neg (fun z => c_31 ((has_nI (by omega) (by omega)).mpr z.1))
        have hh := ih (i + 1) (.int (nI (aoN s x o i))) (by omega)
        rw [e] at hh
        exact hh
      · refine g_iload (pc' := 36) rfl rfl rfl ?_
        refine g_iconst (pc' := 37) (v := 3) rfl rfl (by decide) ?_
        refine g_icmp_ge (pc' := 40) (t := 47) rfl rfl rfl (fun c_37 => ?_) (fun c_37 => ?_)
        · refine g_iinc (pc' := 50) (v := nI (i + 1)) rfl rfl rfl (nI_1 i) rfl ?_
          refine g_goto (pc' := 5) rfl rfl ?_
          have e : fN (stN (aoN s x o) v) (i + 1) 0 = fN (stN (aoN s x o) v) i 0 := by rw [fN]; exact if_neg (fun z => nI_ge (b := 3) z.2 (by decide) c_37)
          have hh := ih (i + 1) (.int (nI (aoN s x o i))) (by omega)
          rw [e] at hh
          exact hh
        · refine g_iload_n (pc' := 41) rfl rfl rfl ?_
          refine g_iconst (pc' := 42) (v := 1) rfl rfl (by decide) ?_
          refine g_iload (pc' := 44) rfl rfl rfl ?_
          refine g_ishl (pc' := 45) rfl rfl ?_
          refine g_vi (y := nI (2 ^ aoN s x o i)) (bit_nI (by omega)) ?_
          refine g_ior (pc' := 46) rfl rfl ?_
          refine g_vi (y := nI (fN (stN (aoN s x o) v) i 0 ||| 2 ^ aoN s x o i)) (nI_or _ _) ?_
          refine g_istore_n (pc' := 47) rfl rfl rfl ?_
          refine g_iinc (pc' := 50) (v := nI (i + 1)) rfl rfl rfl (nI_1 i) rfl ?_
          refine g_goto (pc' := 5) rfl rfl ?_
          have e : fN (stN (aoN s x o) v) (i + 1) 0 = fN (stN (aoN s x o) v) i 0 ||| 2 ^ aoN s x o i := by rw [fN]; exact if_pos ⟨(has_nI (by omega) (by omega)).mp c_31, Nat.not_le.mp (fun z => c_37 (nI_le (a := 3) z (by omega)))⟩
          have hh := ih (i + 1) (.int (nI (aoN s x o i))) (by omega)
          rw [e] at hh
          exact hh
  refine g_iconst (pc' := 1) (v := 0) rfl rfl (by decide) ?_
  refine g_istore_n (pc' := 2) rfl rfl rfl ?_
  refine g_iconst (pc' := 3) (v := 0) rfl rfl (by decide) ?_
  refine g_istore (pc' := 5) rfl rfl rfl ?_
  exact loop 3 0 _ rfl
def upN' (f : Nat → Nat) (k v : Nat) : Nat → Nat := fun i => if i = k then v else f i
def spS (s : aStr) (x S : Nat) (o : Nat) (f : Nat → Nat) : Nat → Nat := if S.testBit o = true then f else upN' f (S ||| 2 ^ o) (f (S ||| 2 ^ o) ||| stepN (aoN s x o) (f S))
def RC (m : aMem) (f : Nat → Nat) : Prop := ∀ T, T < 1024 → m.1 18 T = nI (f T) ∧ f T < 8
theorem spS_8 {s : aStr} {x S o T : Nat} {f : Nat → Nat} (h : ∀ T, T < 1024 → f T < 8) (hS : S ||| 2 ^ o < 1024) (hT : T < 1024) : spS s x S o f T < 8 := by
  unfold spS
  split
  · exact h T hT
  · unfold upN'
    split
    · exact or_8 (h _ hS) (stepN_lt _ _)
    · exact h T hT
theorem or_1024 {S o : Nat} (hS : S < 1024) (ho : o < 10) : S ||| 2 ^ o < 1024 := Nat.or_lt_two_pow (n := 10) hS (Nat.pow_lt_pow_right (a := 2) (by decide) ho)
theorem has0_nI {v k : Nat} (hv : v < 2 ^ 31) (hk : k < 32) : ((nI v >>> (nI k &&& 31)) &&& 1 = 0) ↔ ¬ v.testBit k = true := by
  rw [shr_nI hv hk, show (1 : Int32) = nI 1 from rfl, nI_and, Nat.and_one_is_mod, show (0 : Int32) = nI 0 from rfl, nI_eq (by omega) (by decide), Nat.testBit_eq_decide_div_mod_eq, decide_eq_true_eq]
  omega
theorem c_spreadFrom {K : aMem → Prop} {s : aStr} {x S Mx : Nat} {f : Nat → Nat} (hS : S < 1024) (hA : ∀ o, o < 10 → AF m s x o) (hW : WFs Mx s) (hR : RC m f) (h : ∀ m', Fr 18 19 m m' → RC m' (fN (spS s x S) 10 f) → K m') : gCv X 37 [.ref 17, .int (nI S)] m K := by
  refine g_inV rfl ?_
  have loop : ∀ (d i : Nat) (m1 : aMem), i + d = 10 → Fr 18 19 m m1 → RC m1 (fN (spS s x S) i f) → gG X 37 2 [.ref 17, .int (nI S), .int (nI i)] [] m1 (fun r m' => r = none ∧ K m') := by
    intro d
    induction d with
    | zero =>
      intro i m1 hd hF hC
      have hi : i = 10 := by omega
      subst hi
      refine g_iload_n (pc' := 3) rfl rfl rfl ?_
      refine g_bipush (pc' := 5) (v := 10) rfl rfl (by decide) ?_
      refine g_icmp_ge (pc' := 8) (t := 46) rfl rfl rfl (fun c_5 => ?_) (fun c_5 => absurd (by decide) c_5)
      exact g_return rfl rfl (h m1 hF hC)
    | succ d ih =>
      intro i m1 hd hF hC
      have hlt : i < 10 := by omega
      refine g_iload_n (pc' := 3) rfl rfl rfl ?_
      refine g_bipush (pc' := 5) (v := 10) rfl rfl (by decide) ?_
      refine g_icmp_ge (pc' := 8) (t := 46) rfl rfl rfl (fun c_5 => absurd c_5 (nI_ge (b := 10) hlt (by decide))) (fun c_5 => ?_)
      refine g_iload_n (pc' := 9) rfl rfl rfl ?_
      refine g_iload_n (pc' := 10) rfl rfl rfl ?_
      refine g_ishr (pc' := 11) rfl rfl ?_
      refine g_iconst (pc' := 12) (v := 1) rfl rfl (by decide) ?_
      refine g_iand (pc' := 13) rfl rfl ?_
      refine g_if_ne (pc' := 16) (t := 40) rfl rfl rfl (fun c_13 => ?_) (fun c_13 => ?_)
      · refine g_iinc (pc' := 43) (v := nI (i + 1)) rfl rfl rfl (nI_1 i) rfl ?_
        refine g_goto (pc' := 2) rfl rfl ?_
        exact ih (i + 1) m1 (by omega) hF (by
          rw [show fN (spS s x S) (i + 1) f = fN (spS s x S) i f by rw [fN, spS, if_pos (Classical.not_not.mp (fun z => c_13 ((has0_nI (by omega) (by omega)).mpr z)))]]
          exact hC)
      · have hT := or_1024 hS hlt
        have h0 : ¬ S.testBit i = true := (has0_nI (by omega) (by omega)).mp c_13
        refine g_aload_n (pc' := 17) rfl rfl rfl ?_
        refine g_getr (pc' := 20) rfl rfl (f_5_0) ?_
        refine g_iload_n (pc' := 21) rfl rfl rfl ?_
        refine g_iconst (pc' := 22) (v := 1) rfl rfl (by decide) ?_
        refine g_iload_n (pc' := 23) rfl rfl rfl ?_
        refine g_ishl (pc' := 24) rfl rfl ?_
        refine g_vi (y := nI (2 ^ i)) (bit_nI (by omega)) ?_
        refine g_ior (pc' := 25) rfl rfl ?_
        refine g_vi (y := nI (S ||| 2 ^ i)) (nI_or _ _) ?_
        refine g_dup2 (pc' := 26) rfl rfl ?_
        refine g_iald (pc' := 27) rfl rfl (a_18) hT rfl ?_
        refine g_vi (y := nI (fN (spS s x S) i f (S ||| 2 ^ i))) ((hC _ hT).1) ?_
        refine g_aload_n (pc' := 28) rfl rfl rfl ?_
        refine g_aload_n (pc' := 29) rfl rfl rfl ?_
        refine g_getr (pc' := 32) rfl rfl (f_5_0) ?_
        refine g_iload_n (pc' := 33) rfl rfl rfl ?_
        refine g_iald (pc' := 34) rfl rfl (a_18) hS rfl ?_
        refine g_vi (y := nI (fN (spS s x S) i f S)) ((hC _ hS).1) ?_
        refine g_iload_n (pc' := 35) rfl rfl rfl ?_
        refine g_calli (pc' := 38) rfl rfl rfl rfl (Or.inr rfl) ?_
        refine c_cracksAfter (s := s) (x := x) (Mx := Mx) hlt (hC _ hS).2 (fun c hc => by rw [hF.i (q := 19) (by omega)]; exact hA i hlt c hc) hW ?_
        refine g_ior (pc' := 39) rfl rfl ?_
        refine g_vi (y := nI (fN (spS s x S) i f (S ||| 2 ^ i) ||| stepN (aoN s x i) (fN (spS s x S) i f S))) (nI_or _ _) ?_
        refine g_iast (pc' := 40) rfl rfl (a_18) hT rfl ?_
        refine g_iinc (pc' := 43) (v := nI (i + 1)) rfl rfl rfl (nI_1 i) rfl ?_
        refine g_goto (pc' := 2) rfl rfl ?_
        exact ih (i + 1) _ (by omega) (hF.s (by omega) (by omega)) (by
          have e : fN (spS s x S) (i + 1) f = upN' (fN (spS s x S) i f) (S ||| 2 ^ i) (fN (spS s x S) i f (S ||| 2 ^ i) ||| stepN (aoN s x i) (fN (spS s x S) i f S)) := by rw [fN]; exact if_neg h0
          intro T hT2
          refine ⟨?_, ?_⟩
          · rw [e]
            simp only [am_wi_s]
            unfold upN'
            by_cases e2 : T = S ||| 2 ^ i
            · rw [if_pos e2, e2, upd_at]
            · rw [if_neg e2, upd_ne e2]; exact (hC T hT2).1
          · rw [fN]; exact spS_8 (fun T h => (hC T h).2) hT hT2)
  refine g_iconst (pc' := 1) (v := 0) rfl rfl (by decide) ?_
  refine g_istore_n (pc' := 2) rfl rfl rfl ?_
  exact loop 10 0 m rfl Fr.rf hR
end R2
