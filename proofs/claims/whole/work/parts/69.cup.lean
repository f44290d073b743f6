/-! CUPS -/
def cuS (s : aStr) (x k a : Nat) : Nat := if pcN (2 * k + 1) = 4 then a + wcN s (2 * k + 1) x else a
def cuN (s : aStr) (x : Nat) : Nat := fN (cuS s x) 128 0
def r_cup (A : aA) (x : Int32) : Int32 × aA := if ¬ (0 ≤ x ∧ x ≤ 7) then (-1, A) else if ¬ ∀ k, k < 8 → ¬ sC (aS A) k = 3 then (-3, A) else (nI (cuN (aS A) (ix x)), A)
theorem n_255 : ∀ v, v < 1024 → ((v &&& 255 = 0) ↔ ∀ k, k < 8 → v.testBit k = false) := by decide +kernel
theorem br_255 (s : aStr) : (brokenB s &&& 255 = 0) ↔ ∀ k, k < 8 → ¬ sC s k = 3 := by
  unfold brokenB
  rw [mk_fN (fun k => sC s k = 3) (fun k => inferInstance) 10 (by decide), show (255 : Int32) = nI 255 from rfl, nI_and]
  have h1 := mk_lt (fun k => decide (sC s k = 3)) 10
  have h2 := n_255 _ h1
  have h3 : mk (fun k => decide (sC s k = 3)) 10 &&& 255 ≤ 255 := Nat.and_le_right
  rw [show (0 : Int32) = nI 0 from rfl, nI_eq (by omega) (by decide), h2]
  refine ⟨fun a k hk => ?_, fun a k hk => ?_⟩
  · have := a k hk
    rw [mk_bit] at this
    have e : decide (k < 10) = true := by simp; omega
    rw [e] at this
    simpa using this
  · rw [mk_bit]
    simp [a k hk]
section K5
variable {X : aX} {m : aMem} {A : aA} {K : Int32 → aMem → Prop}
theorem SQ.kp {m' : aMem} (h : SQ m m') : KM m m' := by
  refine ⟨fun q hq => ?_, fun q _ => congrFun h.2.1 q, fun i _ hi => h.2.2 i (by omega)⟩
  exact h.1 q (by omega) (by omega)
theorem c_cups {s : aStr} {Mx x : Nat} (hs : stAt m 2 = s) (hx : x < 8) (hW : WFs Mx s) (hb : ∀ k, k < 8 → ¬ sC s k = 3) (h : ∀ m', Fr 21 24 m m' → K (nI (cuN s x)) m') : gCi X 2 [.ref 20, .ref 2, .int (nI x)] m K := by
  refine g_inI rfl ?_
  have loop : ∀ (d i : Nat) (m1 : aMem), i + d = 128 → Fr 21 24 m m1 → gG X 2 5 [.ref 20, .ref 2, .int (nI x), .int (nI (fN (cuS s x) i 0)), .int (nI (2 * i + 1))] [] m1 (fun r m' => ∃ v, r = some (.int v) ∧ K v m') := by
    intro d
    induction d with
    | zero =>
      intro i m1 hd hF
      have hi : i = 128 := by omega
      subst hi
      refine g_iload (pc' := 7) rfl rfl rfl ?_
      refine g_sipush (pc' := 10) (v := 255) rfl rfl (by decide) ?_
      refine g_icmp_gt (pc' := 13) (t := 39) rfl rfl rfl (fun c_10 => ?_) (fun c_10 => absurd (by decide) c_10)
      refine g_iload_n (pc' := 40) rfl rfl rfl ?_
      exact g_ireturn rfl rfl (h m1 hF)
    | succ d ih =>
      intro i m1 hd hF
      have hlt : i < 128 := by omega
      refine g_iload (pc' := 7) rfl rfl rfl ?_
      refine g_sipush (pc' := 10) (v := 255) rfl rfl (by decide) ?_
      refine g_icmp_gt (pc' := 13) (t := 39) rfl rfl rfl (fun c_10 => absurd c_10 (Int32.not_lt.mpr (nI_le (b := 255) (by omega) (by decide)))) (fun c_10 => ?_)
      refine g_iload (pc' := 15) rfl rfl rfl ?_
      refine g_calli (pc' := 18) rfl rfl rfl rfl (Or.inl rfl) ?_
      refine c_bc (by omega) ?_
      have hp1 := pcF_le 10 (2 * i + 1)
      refine g_iconst (pc' := 19) (v := 4) rfl rfl (by decide) ?_
      refine g_icmp_ne (pc' := 22) (t := 33) rfl rfl rfl (fun c_19 => ?_) (fun c_19 => ?_)
      · refine g_iinc (pc' := 36) (v := nI (2 * (i + 1) + 1)) rfl rfl rfl (by rw [show 2 * (i + 1) + 1 = 2 * i + 1 + 2 by omega]; exact nI_add _ 2) rfl ?_
        refine g_goto (pc' := 5) rfl rfl ?_
        have e : fN (cuS s x) (i + 1) 0 = fN (cuS s x) i 0 := by rw [fN, cuS, if_neg (fun z => c_19 (by rw [z]; rfl))]
        have hh := ih (i + 1) m1 (by omega) hF
        rw [e] at hh
        exact hh
      · refine g_iload_n (pc' := 23) rfl rfl rfl ?_
        refine g_aload_n (pc' := 24) rfl rfl rfl ?_
        refine g_aload_n (pc' := 25) rfl rfl rfl ?_
        refine g_iload (pc' := 27) rfl rfl rfl ?_
        refine g_iload_n (pc' := 28) rfl rfl rfl ?_
        refine g_calli (pc' := 31) rfl rfl rfl rfl (Or.inr rfl) ?_
        refine c_split (s := s) (Mx := Mx) ((hF.st (p := 2) (by omega)).trans hs) hx (by omega) ((nI_eq (a := pcN (2 * i + 1)) (b := 4) (by unfold pcN; omega) (by decide)).mp c_19) hW hb (fun m2 f2 => ?_)
        refine g_iadd (pc' := 32) rfl rfl ?_
        refine g_vi (y := nI (fN (cuS s x) i 0 + wcN s (2 * i + 1) x)) (nI_add _ _) ?_
        refine g_istore_n (pc' := 33) rfl rfl rfl ?_
        refine g_iinc (pc' := 36) (v := nI (2 * (i + 1) + 1)) rfl rfl rfl (by rw [show 2 * (i + 1) + 1 = 2 * i + 1 + 2 by omega]; exact nI_add _ 2) rfl ?_
        refine g_goto (pc' := 5) rfl rfl ?_
        have e : fN (cuS s x) (i + 1) 0 = fN (cuS s x) i 0 + wcN s (2 * i + 1) x := by rw [fN, cuS, if_pos ((nI_eq (a := pcN (2 * i + 1)) (b := 4) (by unfold pcN; omega) (by decide)).mp c_19)]
        have hh := ih (i + 1) m2 (by omega) (hF.tr f2)
        rw [e] at hh
        exact hh
  refine g_iconst (pc' := 1) (v := 0) rfl rfl (by decide) ?_
  refine g_istore_n (pc' := 2) rfl rfl rfl ?_
  refine g_iconst (pc' := 3) (v := 1) rfl rfl (by decide) ?_
  refine g_istore (pc' := 5) rfl rfl rfl ?_
  exact loop 128 0 m rfl Fr.rf
theorem c_cup {x : Int32} (hC : CI m A) {Mx : Nat} (hW : WFs Mx (aS A)) (h : ∀ m', Fr 1 53 m m' → CI m' (r_cup A x).2 → K (r_cup A x).1 m') : gCi X 89 [.ref 1, .int x] m K := by
  refine g_inI rfl ?_
  have es := hC.1
  refine g_iload_n (pc' := 1) rfl rfl rfl ?_
  refine g_iconst (pc' := 2) (v := 0) rfl rfl (by decide) ?_
  refine g_bipush (pc' := 4) (v := 7) rfl rfl (by decide) ?_
  refine g_calli (pc' := 7) rfl rfl rfl rfl (Or.inl rfl) ?_
  refine c_isWithin (fun u1 u2 => ?_) (fun u0 => ?_)
  · refine g_if_ne (pc' := 10) (t := 12) rfl rfl rfl (fun _ => ?_) (fun c => absurd c (by decide))
    refine g_aload_n (pc' := 13) rfl rfl rfl ?_
    refine g_getr (pc' := 16) rfl rfl (f_10_0) ?_
    refine g_calli (pc' := 19) rfl rfl rfl rfl (Or.inr (rc_S isS_2)) ?_
    refine c_brokenNuts isS_2 ?_
    rw [es]
    refine g_sipush (pc' := 22) (v := 255) rfl rfl (by decide) ?_
    refine g_iand (pc' := 23) rfl rfl ?_
    refine g_if_eq (pc' := 26) (t := 29) rfl rfl rfl (fun c_23 => ?_) (fun c_23 => ?_)
    · have hb := (br_255 _).mp c_23
      obtain ⟨k, hk, ek⟩ := i_rng (a := 0) (b := 7) rfl rfl (by decide) (by decide) u1 u2
      rw [Nat.zero_add] at ek
      have er : r_cup A x = (nI (cuN (aS A) k), A) := by unfold r_cup; rw [if_neg (nn ⟨u1, u2⟩), if_neg (nn hb), ek, ix_nI (by omega)]
      subst ek
      refine g_aload_n (pc' := 30) rfl rfl rfl ?_
      refine g_getr (pc' := 33) rfl rfl (f_10_5) ?_
      refine g_aload_n (pc' := 34) rfl rfl rfl ?_
      refine g_getr (pc' := 37) rfl rfl (f_10_0) ?_
      refine g_iload_n (pc' := 38) rfl rfl rfl ?_
      refine g_calli (pc' := 41) rfl rfl rfl rfl (Or.inr rfl) ?_
      refine c_cups es (by omega) hW hb (fun m1 f1 => ?_)
      exact g_ireturn rfl rfl (cf h er (f1.wide (by decide) (by decide)) (hC.fr f1 (by omega)))
    · refine g_bipush (pc' := 28) (v := -3) rfl rfl (by decide) ?_
      exact g_ireturn rfl rfl (cf h (by unfold r_cup; rw [if_neg (nn ⟨u1, u2⟩), if_pos (fun z => c_23 ((br_255 _).mpr z))]) Fr.rf hC)
  · refine g_if_ne (pc' := 10) (t := 12) rfl rfl rfl (fun c => absurd c (by decide)) (fun _ => ?_)
    refine g_iconst (pc' := 11) (v := -1) rfl rfl (by decide) ?_
    exact g_ireturn rfl rfl (cf h (by unfold r_cup; rw [if_pos u0]) Fr.rf hC)
theorem d_cup {x : Int32} (hM : MI m A) {Mx : Nat} (hW : WFs Mx (aS A)) (h : ∀ m', Fr 53 73 m m' → MI m' (r_cup A x).2 → K (r_cup A x).1 m') : gCi X 152 [.ref 53, .int x] m K := by
  refine g_inI rfl ?_
  have es := hM.1
  refine g_iload_n (pc' := 1) rfl rfl rfl ?_
  refine g_i2l (pc' := 2) rfl rfl ?_
  refine g_lconst (pc' := 3) (v := 0) rfl rfl (by decide) ?_
  refine g_ldc2_w (pc' := 6) (v := 7) rfl rfl (by decide) ?_
  refine g_calli (pc' := 9) rfl rfl rfl rfl (Or.inl rfl) ?_
  refine d_in (lo := 0) (hi := 7) (by decide) (by decide) (fun u1 u2 => ?_) (fun u0 => ?_)
  · refine g_if_ne (pc' := 12) (t := 14) rfl rfl rfl (fun _ => ?_) (fun c => absurd c (by decide))
    obtain ⟨k, hk, ek⟩ := i_rng (a := 0) (b := 7) rfl rfl (by decide) (by decide) u1 u2
    rw [Nat.zero_add] at ek
    have er3 : (¬ ∀ k, k < 8 → ¬ sC (aS A) k = 3) → r_cup A x = (-3, A) := fun z => by unfold r_cup; rw [if_neg (nn ⟨u1, u2⟩), if_pos z]
    have er4 : (∀ k, k < 8 → ¬ sC (aS A) k = 3) → r_cup A x = (nI (cuN (aS A) k), A) := fun z => by unfold r_cup; rw [if_neg (nn ⟨u1, u2⟩), if_neg (nn z), ek, ix_nI (by omega)]
    subst ek
    refine g_iconst (pc' := 15) (v := 0) rfl rfl (by decide) ?_
    refine g_istore_n (pc' := 16) rfl rfl rfl ?_
    refine g_iconst (pc' := 17) (v := 0) rfl rfl (by decide) ?_
    refine g_istore_n (pc' := 18) rfl rfl rfl ?_
    have loop : ∀ (d i : Nat) (n : Nat), i + d = 8 → n ≤ i → (n = 0 ↔ ∀ k, k < i → ¬ sC (aS A) k = 3) → gG X 152 18 [.ref 53, .int (nI k), .int (nI n), .int (nI i)] [] m (fun r m' => ∃ v, r = some (.int v) ∧ K v m') := by
      intro d
      induction d with
      | zero =>
        intro i n hd hn hn0
        have hi : i = 8 := by omega
        subst hi
        refine g_iload_n (pc' := 19) rfl rfl rfl ?_
        refine g_bipush (pc' := 21) (v := 8) rfl rfl (by decide) ?_
        refine g_icmp_ge (pc' := 24) (t := 46) rfl rfl rfl (fun c_21 => ?_) (fun c_21 => absurd (by decide) c_21)
        refine g_iload_n (pc' := 47) rfl rfl rfl ?_
        refine g_if_le (pc' := 50) (t := 53) rfl rfl rfl (fun c_47 => ?_) (fun c_47 => ?_)
        · have n0 : n = 0 := by
            have z := (nI_leI (a := n) (b := 0) (by omega) (by decide)).mp c_47
            omega
          have hb := hn0.mp n0
          have er := er4 hb
          subst n0
          refine g_iconst (pc' := 54) (v := 1) rfl rfl (by decide) ?_
          refine g_istore_n (pc' := 55) rfl rfl rfl ?_
          have loop2 : ∀ (d i : Nat) (m1 : aMem), i + d = 128 → SQ m m1 → gG X 152 55 [.ref 53, .int (nI k), .int (nI (fN (cuS (aS A) k) i 0)), .int (nI (2 * i + 1))] [] m1 (fun r m' => ∃ v, r = some (.int v) ∧ K v m') := by
            intro d
            induction d with
            | zero =>
              intro i m1 hd hF
              have hi : i = 128 := by omega
              subst hi
              refine g_iload_n (pc' := 56) rfl rfl rfl ?_
              refine g_sipush (pc' := 59) (v := 256) rfl rfl (by decide) ?_
              refine g_icmp_ge (pc' := 62) (t := 89) rfl rfl rfl (fun c_59 => ?_) (fun c_59 => absurd (by decide) c_59)
              refine g_iload_n (pc' := 90) rfl rfl rfl ?_
              exact g_ireturn rfl rfl (mf h er hF.kp.fr (hF.kp.mi hM (hF.st.trans es)))
            | succ d ih =>
              intro i m1 hd hF
              have hlt : i < 128 := by omega
              refine g_iload_n (pc' := 56) rfl rfl rfl ?_
              refine g_sipush (pc' := 59) (v := 256) rfl rfl (by decide) ?_
              refine g_icmp_ge (pc' := 62) (t := 89) rfl rfl rfl (fun c_59 => absurd c_59 (nI_ge (b := 256) (by omega) (by decide))) (fun c_59 => ?_)
              refine g_iload_n (pc' := 63) rfl rfl rfl ?_
              refine g_iload_n (pc' := 64) rfl rfl rfl ?_
              refine g_calli (pc' := 67) rfl rfl rfl rfl (Or.inl rfl) ?_
              refine d_ones (by omega) ?_
              have hp1 := pcF_le 10 (2 * i + 1)
              refine g_iconst (pc' := 68) (v := 4) rfl rfl (by decide) ?_
              refine g_icmp_ne (pc' := 71) (t := 80) rfl rfl rfl (fun c_68 => ?_) (fun c_68 => ?_)
              · refine g_iconst (pc' := 81) (v := 0) rfl rfl (by decide) ?_
                refine g_iadd (pc' := 82) rfl rfl ?_
                refine g_vi (y := nI (fN (cuS (aS A) k) i 0)) (i_add0 _) ?_
                refine g_istore_n (pc' := 83) rfl rfl rfl ?_
                refine g_iinc (pc' := 86) (v := nI (2 * (i + 1) + 1)) rfl rfl rfl (by rw [show 2 * (i + 1) + 1 = 2 * i + 1 + 2 by omega]; exact nI_add _ 2) rfl ?_
                refine g_goto (pc' := 55) rfl rfl ?_
                have e : fN (cuS (aS A) k) (i + 1) 0 = fN (cuS (aS A) k) i 0 := by rw [fN, cuS, if_neg (fun z => c_68 (by rw [z]; rfl))]
                have hh := ih (i + 1) m1 (by omega) hF
                rw [e] at hh
                exact hh
              · refine g_aload_n (pc' := 72) rfl rfl rfl ?_
                refine g_iload_n (pc' := 73) rfl rfl rfl ?_
                refine g_iload_n (pc' := 74) rfl rfl rfl ?_
                refine g_calli (pc' := 77) rfl rfl rfl rfl (Or.inr rfl) ?_
                refine d_winsOf (Mx := Mx) (by omega) (by omega) ((nI_eq (a := pcN (2 * i + 1)) (b := 4) (by unfold pcN; omega) (by decide)).mp c_68) (by rw [hF.st, es]; exact hW) (by rw [hF.st, es]; exact hb) (fun m2 f2 => ?_)
                rw [hF.st, es]
                refine g_goto (pc' := 81) rfl rfl ?_
                refine g_iadd (pc' := 82) rfl rfl ?_
                refine g_vi (y := nI (fN (cuS (aS A) k) i 0 + wcN (aS A) (2 * i + 1) k)) (nI_add _ _) ?_
                refine g_istore_n (pc' := 83) rfl rfl rfl ?_
                refine g_iinc (pc' := 86) (v := nI (2 * (i + 1) + 1)) rfl rfl rfl (by rw [show 2 * (i + 1) + 1 = 2 * i + 1 + 2 by omega]; exact nI_add _ 2) rfl ?_
                refine g_goto (pc' := 55) rfl rfl ?_
                have e : fN (cuS (aS A) k) (i + 1) 0 = fN (cuS (aS A) k) i 0 + wcN (aS A) (2 * i + 1) k := by rw [fN, cuS, if_pos ((nI_eq (a := pcN (2 * i + 1)) (b := 4) (by unfold pcN; omega) (by decide)).mp c_68)]
                have hh := ih (i + 1) m2 (by omega) (hF.tr f2)
                rw [e] at hh
                exact hh
          exact loop2 128 0 m rfl SQ.rf
        · refine g_bipush (pc' := 52) (v := -3) rfl rfl (by decide) ?_
          exact g_ireturn rfl rfl (mf h (er3 (fun z => c_47 (by rw [hn0.mpr z]; decide))) Fr.rf hM)
      | succ d ih =>
        intro i n hd hn hn0
        have hlt : i < 8 := by omega
        refine g_iload_n (pc' := 19) rfl rfl rfl ?_
        refine g_bipush (pc' := 21) (v := 8) rfl rfl (by decide) ?_
        refine g_icmp_ge (pc' := 24) (t := 46) rfl rfl rfl (fun c_21 => absurd c_21 (nI_ge (b := 8) hlt (by decide))) (fun c_21 => ?_)
        refine g_iload_n (pc' := 25) rfl rfl rfl ?_
        refine g_aload_n (pc' := 26) rfl rfl rfl ?_
        refine g_iload_n (pc' := 27) rfl rfl rfl ?_
        refine g_calli (pc' := 30) rfl rfl rfl rfl (Or.inr rfl) ?_
        refine d_isBroken (by omega) (fun q => ?_) (fun q => ?_)
        · refine g_if_eq (pc' := 33) (t := 37) rfl rfl rfl (fun c => absurd c (by decide)) (fun _ => ?_)
          refine g_iconst (pc' := 34) (v := 1) rfl rfl (by decide) ?_
          refine g_goto (pc' := 38) rfl rfl ?_
          refine g_iadd (pc' := 39) rfl rfl ?_
          refine g_vi (y := nI (n + 1)) (nI_1 n) ?_
          refine g_istore_n (pc' := 40) rfl rfl rfl ?_
          refine g_iinc (pc' := 43) (v := nI (i + 1)) rfl rfl rfl (nI_1 i) rfl ?_
          refine g_goto (pc' := 18) rfl rfl ?_
          rw [es] at q
          exact ih (i + 1) (n + 1) (by omega) (by omega) ⟨fun z => absurd z (by omega), fun z => absurd q (z i (by omega))⟩
        · refine g_if_eq (pc' := 33) (t := 37) rfl rfl rfl (fun _ => ?_) (fun c => absurd c (by decide))
          refine g_iconst (pc' := 38) (v := 0) rfl rfl (by decide) ?_
          refine g_iadd (pc' := 39) rfl rfl ?_
          refine g_vi (y := nI n) (i_add0 _) ?_
          refine g_istore_n (pc' := 40) rfl rfl rfl ?_
          refine g_iinc (pc' := 43) (v := nI (i + 1)) rfl rfl rfl (nI_1 i) rfl ?_
          refine g_goto (pc' := 18) rfl rfl ?_
          rw [es] at q
          exact ih (i + 1) n (by omega) (by omega) ⟨fun z k hk => by
            by_cases e : k = i
            · rw [e]; exact q
            · exact hn0.mp z k (by omega), fun z => hn0.mpr (fun k hk => z k (by omega))⟩
    exact loop 8 0 0 rfl (Nat.le_refl _) ⟨fun _ k hk => absurd hk (Nat.not_lt_zero _), fun _ => rfl⟩
  · refine g_if_ne (pc' := 12) (t := 14) rfl rfl rfl (fun c => absurd c (by decide)) (fun _ => ?_)
    refine g_iconst (pc' := 13) (v := -1) rfl rfl (by decide) ?_
    exact g_ireturn rfl rfl (mf h (by unfold r_cup; rw [if_pos u0]) Fr.rf hM)
end K5
