section GH
variable {X : aX} {j pc pc' len : Nat} {ls st ls' : List Value} {m : aMem} {Q : Option Value → aMem → Prop} {r : aR} {I : aI}
theorem am_gr_ok {a b p q : Nat} (h : am_gr a b p = some q) : ∃ (o : Nat) (rs : List (Option Nat)) (t : FieldType) (f : Bool), p = o + 1 ∧ SHP[o]? = some (.inr (a, rs)) ∧ am_ft a b = some (t, f) ∧ am_fk t = 2 ∧ rs[b]? = some (some q) := by
  unfold am_gr at h
  split at h
  · cases h
  · split at h
    · next h1 h2 =>
      split at h
      · next hc =>
        split at h
        · next h3 => cases h; obtain ⟨rfl, hk⟩ := hc; exact ⟨_, _, _, _, rfl, h1, h2, hk, h3⟩
        · cases h
      · cases h
    · cases h
theorem am_gk_ok {k a b p : Nat} (h : am_gk k a b p = true) : ∃ (o : Nat) (rs : List (Option Nat)) (t : FieldType), p = o + 1 ∧ SHP[o]? = some (.inr (a, rs)) ∧ am_ft a b = some (t, false) ∧ am_fk t = k := by
  unfold am_gk at h
  split at h
  · cases h
  · split at h
    · next h1 h2 =>
      simp only [Bool.and_eq_true, decide_eq_true_eq, Bool.not_eq_true'] at h
      obtain ⟨⟨rfl, hk⟩, rfl⟩ := h
      exact ⟨_, _, _, rfl, h1, h2, hk⟩
    · cases h
theorem am_shp_le : SHP.all (fun c => match c with
  | .inl (_, n) => decide (n ≤ 1024)
  | _ => true) = true := by decide
theorem am_ga_ok {z : Bool} {n p : Nat} (h : am_ga z n p = true) : ∃ o : Nat, p = o + 1 ∧ SHP[o]? = some (.inl (z, n)) ∧ n ≤ 1024 := by
  unfold am_ga at h
  split at h
  · cases h
  · split at h
    · next h1 =>
      simp only [Bool.and_eq_true, decide_eq_true_eq] at h
      obtain ⟨rfl, rfl⟩ := h
      exact ⟨_, rfl, h1, of_decide_eq_true (List.all_eq_true.mp am_shp_le _ (List.mem_of_getElem? h1))⟩
    · cases h
theorem g_getr {x a b w p q : Nat} {z : Int} (hI : am_in j pc = some (.getfield x, len, a, b, w, z)) (hp : pc + len = pc') (h : am_gr a b p = some q) (k : gG X j pc' ls (.ref q :: st) m Q) : gG X j pc ls (.ref p :: st) m Q := by
  obtain ⟨o, rs, t, f, rfl, h1, h2, h3, h4⟩ := am_gr_ok h
  subst hp
  exact g_step hI rfl rfl (by simp only [am_step, am_sA, am_sB, am_sC, am_sD, am_sE, am_sF, am_sG, h1, h2, h3, h4, if_true]) k
theorem g_geti {x a b w p : Nat} {z : Int} (hI : am_in j pc = some (.getfield x, len, a, b, w, z)) (hp : pc + len = pc') (h : am_gk 0 a b p = true) (k : gG X j pc' ls (.int (m.1 p b) :: st) m Q) : gG X j pc ls (.ref p :: st) m Q := by
  obtain ⟨o, rs, t, rfl, h1, h2, h3⟩ := am_gk_ok h
  subst hp
  exact g_step hI rfl rfl (by simp only [am_step, am_sA, am_sB, am_sC, am_sD, am_sE, am_sF, am_sG, h1, h2, h3, if_true]) k
theorem g_getb {x a b w p : Nat} {z : Int} (hI : am_in j pc = some (.getfield x, len, a, b, w, z)) (hp : pc + len = pc') (h : am_gk 3 a b p = true) (k : gG X j pc' ls (.int (m.1 p b) :: st) m Q) : gG X j pc ls (.ref p :: st) m Q := by
  obtain ⟨o, rs, t, rfl, h1, h2, h3⟩ := am_gk_ok h
  subst hp
  exact g_step hI rfl rfl (by simp only [am_step, am_sA, am_sB, am_sC, am_sD, am_sE, am_sF, am_sG, h1, h2, h3, if_true]) k
theorem g_getl {x a b w p : Nat} {z : Int} (hI : am_in j pc = some (.getfield x, len, a, b, w, z)) (hp : pc + len = pc') (h : am_gk 1 a b p = true) (k : gG X j pc' ls (.long (m.2 p b) :: st) m Q) : gG X j pc ls (.ref p :: st) m Q := by
  obtain ⟨o, rs, t, rfl, h1, h2, h3⟩ := am_gk_ok h
  subst hp
  exact g_step hI rfl rfl (by simp only [am_step, am_sA, am_sB, am_sC, am_sD, am_sE, am_sF, am_sG, h1, h2, h3, if_true]) k
theorem g_puti {x a b w p : Nat} {z : Int} {v : Int32} (hI : am_in j pc = some (.putfield x, len, a, b, w, z)) (hp : pc + len = pc') (h : am_gk 0 a b p = true) (k : gG X j pc' ls st (am_wi m.1 p b v, m.2) Q) : gG X j pc ls (.int v :: .ref p :: st) m Q := by
  obtain ⟨o, rs, t, rfl, h1, h2, h3⟩ := am_gk_ok h
  subst hp
  exact g_step hI rfl rfl (by simp only [am_step, am_sA, am_sB, am_sC, am_sD, am_sE, am_sF, am_sG, h1, h2, h3, and_self, if_true]) k
theorem g_putb {x a b w p : Nat} {z : Int} {v : Int32} (hI : am_in j pc = some (.putfield x, len, a, b, w, z)) (hp : pc + len = pc') (h : am_gk 3 a b p = true) (hv : am_fs v = true) (k : gG X j pc' ls st (am_wi m.1 p b v, m.2) Q) : gG X j pc ls (.int v :: .ref p :: st) m Q := by
  obtain ⟨o, rs, t, rfl, h1, h2, h3⟩ := am_gk_ok h
  subst hp
  exact g_step hI rfl rfl (by simp only [am_step, am_sA, am_sB, am_sC, am_sD, am_sE, am_sF, am_sG, h1, h2, h3, hv, and_self, if_true]) k
theorem g_putl {x a b w p : Nat} {z : Int} {v : Int64} (hI : am_in j pc = some (.putfield x, len, a, b, w, z)) (hp : pc + len = pc') (h : am_gk 1 a b p = true) (k : gG X j pc' ls st (m.1, am_wl m.2 p b v) Q) : gG X j pc ls (.long v :: .ref p :: st) m Q := by
  obtain ⟨o, rs, t, rfl, h1, h2, h3⟩ := am_gk_ok h
  subst hp
  exact g_step hI rfl rfl (by simp only [am_step, am_sA, am_sB, am_sC, am_sD, am_sE, am_sF, am_sG, h1, h2, h3, and_self, if_true]) k
theorem am_ix_nI {k n : Nat} (h : k < n) (hn : n ≤ 1024) : am_ix (nI k) n = true := by
  unfold am_ix
  rw [nI_clamp (by omega)]
  simp only [Bool.not_eq_true', Bool.or_eq_false_iff, decide_eq_false_iff_not]
  exact ⟨nI_pos (by omega), by omega⟩
theorem g_iald {p n k : Nat} {i : Int32} (hI : am_in j pc = some (.iaload, len, r)) (hp : pc + len = pc') (h : am_ga false n p = true) (hk : k < n) (hi : i = nI k) (kk : gG X j pc' ls (.int (m.1 p k) :: st) m Q) : gG X j pc ls (.int i :: .ref p :: st) m Q := by
  obtain ⟨o, rfl, h1, h2⟩ := am_ga_ok h
  subst hp; subst hi
  exact g_step hI rfl rfl (by simp only [am_step, am_sA, am_sB, am_sC, am_sD, am_sE, am_sF, am_sG, am_sH, h1, am_ix_nI hk h2, if_true, nI_clamp (show k < 2 ^ 31 by omega)]) kk
theorem g_iast {p n k : Nat} {i v : Int32} (hI : am_in j pc = some (.iastore, len, r)) (hp : pc + len = pc') (h : am_ga false n p = true) (hk : k < n) (hi : i = nI k) (kk : gG X j pc' ls st (am_wi m.1 p k v, m.2) Q) : gG X j pc ls (.int v :: .int i :: .ref p :: st) m Q := by
  obtain ⟨o, rfl, h1, h2⟩ := am_ga_ok h
  subst hp; subst hi
  exact g_step hI rfl rfl (by simp only [am_step, am_sA, am_sB, am_sC, am_sD, am_sE, am_sF, am_sG, am_sH, h1, am_ix_nI hk h2, if_true, nI_clamp (show k < 2 ^ 31 by omega)]) kk
theorem g_bald {p n k : Nat} {i : Int32} (hI : am_in j pc = some (.baload, len, r)) (hp : pc + len = pc') (h : am_ga true n p = true) (hk : k < n) (hi : i = nI k) (kk : gG X j pc' ls (.int (m.1 p k) :: st) m Q) : gG X j pc ls (.int i :: .ref p :: st) m Q := by
  obtain ⟨o, rfl, h1, h2⟩ := am_ga_ok h
  subst hp; subst hi
  exact g_step hI rfl rfl (by simp only [am_step, am_sA, am_sB, am_sC, am_sD, am_sE, am_sF, am_sG, am_sH, h1, am_ix_nI hk h2, if_true, nI_clamp (show k < 2 ^ 31 by omega)]) kk
theorem g_bast {p n k : Nat} {i v : Int32} (hI : am_in j pc = some (.bastore, len, r)) (hp : pc + len = pc') (h : am_ga true n p = true) (hk : k < n) (hi : i = nI k) (hv : am_fs v = true) (kk : gG X j pc' ls st (am_wi m.1 p k v, m.2) Q) : gG X j pc ls (.int v :: .int i :: .ref p :: st) m Q := by
  obtain ⟨o, rfl, h1, h2⟩ := am_ga_ok h
  subst hp; subst hi
  exact g_step hI rfl rfl (by simp only [am_step, am_sA, am_sB, am_sC, am_sD, am_sE, am_sF, am_sG, am_sH, h1, am_ix_nI hk h2, hv, and_self, if_true, nI_clamp (show k < 2 ^ 31 by omega)]) kk
theorem g_slen (hI : am_in 0 pc = some (.arraylength, len, r)) (hp : pc + len = pc') (kk : gG X 0 pc' ls (.int (Int32.ofNat X.1) :: st) m Q) : gG X 0 pc ls (.ref 0 :: st) m Q := by
  subst hp
  exact g_step hI rfl rfl rfl kk
theorem g_sld {k : Nat} {i : Int32} (hI : am_in 0 pc = some (.iaload, len, r)) (hp : pc + len = pc') (hX : X.1 < 2 ^ 31) (hk : k < X.1) (hi : i = nI k) (kk : gG X 0 pc' ls (.int (X.2 k) :: st) m Q) : gG X 0 pc ls (.int i :: .ref 0 :: st) m Q := by
  subst hp; subst hi
  have h1 : am_ix (nI k) X.1 = true := by
    unfold am_ix
    rw [nI_clamp (by omega)]
    simp only [Bool.not_eq_true', Bool.or_eq_false_iff, decide_eq_false_iff_not]
    exact ⟨nI_pos (by omega), by omega⟩
  exact g_step hI rfl rfl (by simp only [am_step, am_sA, am_sB, am_sC, am_sD, am_sE, am_sF, am_sG, am_sH, h1, show Nat.beq 0 0 = true from rfl, and_self, if_true, nI_clamp (show k < 2 ^ 31 by omega)]) kk
theorem g_max {n b w : Nat} {z : Int} {x y : Int32} (hI : am_in j pc = some (.invokestatic n, len, 179, 0, w, z)) (hp : pc + len = pc') (hc : (Nat.ble 1 (am_fr j) && Nat.ble ((st.map fun v => v.category).sum + 13) (am_lo j)) = true) (k : gG X j pc' ls (.int (if x < y then y else x) :: st) m Q) : gG X j pc ls (.int y :: .int x :: st) m Q := by
  subst hp
  rw [Bool.and_eq_true] at hc
  exact g_step hI (by
    unfold am_call
    dsimp only
    split
    · rw [if_neg (by omega)]
    · rfl) rfl (by simp only [am_step, am_sA, am_sB, am_sC, am_sD, am_sE, am_sF, am_sG, am_sH, am_sN, Nat.le_of_ble_eq_true hc.1, Nat.le_of_ble_eq_true hc.2, and_self, if_true]) k
theorem g_min {n b w : Nat} {z : Int} {x y : Int32} (hI : am_in j pc = some (.invokestatic n, len, 180, 0, w, z)) (hp : pc + len = pc') (hc : (Nat.ble 1 (am_fr j) && Nat.ble ((st.map fun v => v.category).sum + 13) (am_lo j)) = true) (k : gG X j pc' ls (.int (if y < x then y else x) :: st) m Q) : gG X j pc ls (.int y :: .int x :: st) m Q := by
  subst hp
  rw [Bool.and_eq_true] at hc
  exact g_step hI (by
    unfold am_call
    dsimp only
    split
    · rw [if_neg (by omega)]
    · rfl) rfl (by
      simp only [am_step, am_sA, am_sB, am_sC, am_sD, am_sE, am_sF, am_sG, am_sH, am_sN, Nat.le_of_ble_eq_true hc.1, Nat.le_of_ble_eq_true hc.2, and_self, if_true]
      rfl) k
/-- what of a call can be computed -/
noncomputable def am_cck (j k : Nat) (As rest : List Value) : Bool := Nat.blt 0 k && (Nat.blt k 179 && (Nat.ble (am_fr k + 1) (am_fr j) && (Nat.ble (8 + (am_L k + 11) + am_lo k) (am_lo j) && (Nat.ble (rest.map fun v => v.category).sum 8 && Nat.ble (am_sl As).length (am_L k)))))
theorem g_call {i : Instr} {k b w : Nat} {z : Int} {As rest : List Value} (hI : am_in j pc = some (i, len, k, b, w, z)) (ho : am_opk i (am_kd k) b (am_np k) st = some (As, rest)) (hc : am_cck j k As rest = true) (hr : am_kd k = 0 ∨ am_rc As SHP (am_kc k) = true) (h : gC X k As m fun r m' => gG X j (pc + 3) ls (r.toList ++ rest) m' Q) : gG X j pc ls st m Q := by
  obtain ⟨n1, r1, m1, h1, n2, r2, m2, h2, hQ⟩ := h
  unfold am_cck at hc
  simp only [Bool.and_eq_true] at hc
  obtain ⟨c1, c2, c3, c4, c5, c6⟩ := hc
  have hcall : am_call j (i, len, k, b, w, z) st (SHP, m) = some (k, As, rest) := by
    unfold am_call
    dsimp only
    rw [ho]
    dsimp only
    rw [if_pos ⟨am_nb c1, am_nb c2, Nat.le_of_ble_eq_true c3, Nat.le_of_ble_eq_true c4, Nat.le_of_ble_eq_true c5, Nat.le_of_ble_eq_true c6, hr⟩]
  refine ⟨n1 + n2 + 1, r2, m2, ?_, hQ⟩
  rw [am_ev, hI]
  dsimp only
  rw [hcall]
  dsimp only
  rw [am_ev_add h1 n2]
  dsimp only
  rw [show n1 + n2 = n2 + n1 by omega]
  exact am_ev_add h2 n1
theorem gG_imp {Q' : Option Value → aMem → Prop} (h : gG X j pc ls st m Q) (hi : ∀ r m', Q r m' → Q' r m') : gG X j pc ls st m Q' := by
  obtain ⟨n, r, m1, h1, h2⟩ := h
  exact ⟨n, r, m1, h1, hi r m1 h2⟩
theorem g_calli {i : Instr} {k b w : Nat} {z : Int} {As rest : List Value} (hI : am_in j pc = some (i, len, k, b, w, z)) (hp : pc + 3 = pc') (ho : am_opk i (am_kd k) b (am_np k) st = some (As, rest)) (hc : am_cck j k As rest = true) (hr : am_kd k = 0 ∨ am_rc As SHP (am_kc k) = true) (h : gCi X k As m fun v m' => gG X j pc' ls (.int v :: rest) m' Q) : gG X j pc ls st m Q := by
  subst hp
  exact g_call hI ho hc hr (gG_imp h (fun r m' hq => by obtain ⟨v, rfl, h⟩ := hq; exact h))
theorem g_calll {i : Instr} {k b w : Nat} {z : Int} {As rest : List Value} (hI : am_in j pc = some (i, len, k, b, w, z)) (hp : pc + 3 = pc') (ho : am_opk i (am_kd k) b (am_np k) st = some (As, rest)) (hc : am_cck j k As rest = true) (hr : am_kd k = 0 ∨ am_rc As SHP (am_kc k) = true) (h : gCl X k As m fun v m' => gG X j pc' ls (.long v :: rest) m' Q) : gG X j pc ls st m Q := by
  subst hp
  exact g_call hI ho hc hr (gG_imp h (fun r m' hq => by obtain ⟨v, rfl, h⟩ := hq; exact h))
theorem g_callr {i : Instr} {k b w : Nat} {z : Int} {As rest : List Value} (hI : am_in j pc = some (i, len, k, b, w, z)) (hp : pc + 3 = pc') (ho : am_opk i (am_kd k) b (am_np k) st = some (As, rest)) (hc : am_cck j k As rest = true) (hr : am_kd k = 0 ∨ am_rc As SHP (am_kc k) = true) (h : gCr X k As m fun v m' => gG X j pc' ls (.ref v :: rest) m' Q) : gG X j pc ls st m Q := by
  subst hp
  exact g_call hI ho hc hr (gG_imp h (fun r m' hq => by obtain ⟨v, rfl, h⟩ := hq; exact h))
theorem g_callv {i : Instr} {k b w : Nat} {z : Int} {As rest : List Value} (hI : am_in j pc = some (i, len, k, b, w, z)) (hp : pc + 3 = pc') (ho : am_opk i (am_kd k) b (am_np k) st = some (As, rest)) (hc : am_cck j k As rest = true) (hr : am_kd k = 0 ∨ am_rc As SHP (am_kc k) = true) (h : gCv X k As m fun m' => gG X j pc' ls rest m' Q) : gG X j pc ls st m Q := by
  subst hp
  exact g_call hI ho hc hr (gG_imp h (fun r m' hq => by obtain ⟨rfl, h⟩ := hq; exact h))
theorem g_inI {k : Nat} {As : List Value} {K : Int32 → aMem → Prop} (he : am_en As (am_L k) = ls) (h : gG X k 0 ls [] m fun r m' => ∃ v, r = some (.int v) ∧ K v m') : gCi X k As m K := by subst he; exact h
theorem g_inL {k : Nat} {As : List Value} {K : Int64 → aMem → Prop} (he : am_en As (am_L k) = ls) (h : gG X k 0 ls [] m fun r m' => ∃ v, r = some (.long v) ∧ K v m') : gCl X k As m K := by subst he; exact h
theorem g_inR {k : Nat} {As : List Value} {K : Nat → aMem → Prop} (he : am_en As (am_L k) = ls) (h : gG X k 0 ls [] m fun r m' => ∃ v, r = some (.ref v) ∧ K v m') : gCr X k As m K := by subst he; exact h
theorem g_inV {k : Nat} {As : List Value} {K : aMem → Prop} (he : am_en As (am_L k) = ls) (h : gG X k 0 ls [] m fun r m' => r = none ∧ K m') : gCv X k As m K := by subst he; exact h
theorem g_ret {i : Instr} {v : Option Value} (hI : am_in j pc = some (i, len, r)) (hc : am_opk i (am_kd r.1) r.2.1 (am_np r.1) st = none) (hr : am_ret j i st = some v) (hq : Q v m) : gG X j pc ls st m Q := by
  refine ⟨1, v, m, ?_, hq⟩
  obtain ⟨a, b, w, z⟩ := r
  rw [am_ev, hI]
  have hcall : am_call j (i, len, a, b, w, z) st (SHP, m) = none := by
    unfold am_call
    dsimp only at hc ⊢
    rw [hc]
  dsimp only
  rw [hcall]
  dsimp only
  rw [hr]
theorem g_ireturn {v : Int32} {K : Int32 → aMem → Prop} (hI : am_in j pc = some (.ireturn, len, r)) (hr : am_r j = some .int) (hq : K v m) : gG X j pc ls [.int v] m fun r m' => ∃ v, r = some (.int v) ∧ K v m' :=
  g_ret hI rfl (by unfold am_ret; rw [hr]) ⟨v, rfl, hq⟩
theorem g_zreturn {v : Int32} {K : Int32 → aMem → Prop} (hI : am_in j pc = some (.ireturn, len, r)) (hr : am_r j = some .boolean) (hv : am_fs v = true) (hq : K v m) : gG X j pc ls [.int v] m fun r m' => ∃ v, r = some (.int v) ∧ K v m' :=
  g_ret hI rfl (by unfold am_ret; rw [hr]; dsimp only; rw [if_pos hv]) ⟨v, rfl, hq⟩
theorem g_lreturn {v : Int64} {K : Int64 → aMem → Prop} (hI : am_in j pc = some (.lreturn, len, r)) (hr : am_r j = some .long) (hq : K v m) : gG X j pc ls [.long v] m fun r m' => ∃ v, r = some (.long v) ∧ K v m' :=
  g_ret hI rfl (by unfold am_ret; rw [hr]) ⟨v, rfl, hq⟩
theorem g_areturn {v : Nat} {C : String} {K : Nat → aMem → Prop} (hI : am_in j pc = some (.areturn, len, r)) (hr : am_r j = some (.object C)) (hq : K v m) : gG X j pc ls [.ref v] m fun r m' => ∃ v, r = some (.ref v) ∧ K v m' :=
  g_ret hI rfl (by unfold am_ret; rw [hr]) ⟨v, rfl, hq⟩
theorem g_return {K : aMem → Prop} (hI : am_in j pc = some (.return_, len, r)) (hr : am_r j = none) (hq : K m) : gG X j pc ls [] m fun r m' => r = none ∧ K m' :=
  g_ret hI rfl (by unfold am_ret; rw [hr]) ⟨rfl, hq⟩
end GH
/-! facts of the shapes -/
def isS (p : Nat) : Prop := p = 2 ∨ p = 11 ∨ p = 34 ∨ p = 44
def isT (p : Nat) : Prop := p = 24 ∨ p = 40 ∨ p = 50
theorem isS_2 : isS 2 := Or.inl rfl
theorem isS_11 : isS 11 := Or.inr (Or.inl rfl)
theorem isS_34 : isS 34 := Or.inr (Or.inr (Or.inl rfl))
theorem isS_44 : isS 44 := Or.inr (Or.inr (Or.inr rfl))
theorem isT_24 : isT 24 := Or.inl rfl
theorem isT_40 : isT 40 := Or.inr (Or.inl rfl)
theorem isT_50 : isT 50 := Or.inr (Or.inr rfl)
theorem f_0_0 : am_gr 0 0 20 = some 21 := by decide +kernel
theorem f_0_1 : am_gr 0 1 20 = some 22 := by decide +kernel
theorem f_0_2 : am_gr 0 2 20 = some 23 := by decide +kernel
theorem i_1_0 : am_gk 1 1 0 32 = true := by decide +kernel
theorem i_1_1 : am_gk 1 1 1 32 = true := by decide +kernel
theorem f_2_0_33 : am_gr 2 0 33 = some 34 := by decide +kernel
theorem f_2_1_33 : am_gr 2 1 33 = some 40 := by decide +kernel
theorem i_2_2_33 : am_gk 3 2 2 33 = true := by decide +kernel
theorem f_2_0_43 : am_gr 2 0 43 = some 44 := by decide +kernel
theorem f_2_1_43 : am_gr 2 1 43 = some 50 := by decide +kernel
theorem i_2_2_43 : am_gk 3 2 2 43 = true := by decide +kernel
theorem f_3_0 : am_gr 3 0 27 = some 28 := by decide +kernel
theorem f_3_1 : am_gr 3 1 27 = some 29 := by decide +kernel
theorem i_3_2 : am_gk 0 3 2 27 = true := by decide +kernel
theorem i_3_3 : am_gk 0 3 3 27 = true := by decide +kernel
theorem f_4_0 : am_gr 4 0 8 = some 9 := by decide +kernel
theorem i_4_1 : am_gk 0 4 1 8 = true := by decide +kernel
theorem f_5_0 : am_gr 5 0 17 = some 18 := by decide +kernel
theorem f_5_1 : am_gr 5 1 17 = some 19 := by decide +kernel
theorem f_6_0 : am_gr 6 0 30 = some 31 := by decide +kernel
theorem i_6_1 : am_gk 0 6 1 30 = true := by decide +kernel
theorem f_7_0 {p : Nat} (h : isT p) : am_gr 7 0 p = some (p + 1) := by rcases h with rfl | rfl | rfl <;> decide +kernel
theorem f_7_1 {p : Nat} (h : isT p) : am_gr 7 1 p = some (p + 2) := by rcases h with rfl | rfl | rfl <;> decide +kernel
theorem i_7_2 {p : Nat} (h : isT p) : am_gk 0 7 2 p = true := by rcases h with rfl | rfl | rfl <;> decide +kernel
theorem f_8_0 {p : Nat} (h : isS p) : am_gr 8 0 p = some (p + 1) := by rcases h with rfl | rfl | rfl | rfl <;> decide +kernel
theorem f_8_1 {p : Nat} (h : isS p) : am_gr 8 1 p = some (p + 2) := by rcases h with rfl | rfl | rfl | rfl <;> decide +kernel
theorem f_8_2 {p : Nat} (h : isS p) : am_gr 8 2 p = some (p + 3) := by rcases h with rfl | rfl | rfl | rfl <;> decide +kernel
theorem f_8_3 {p : Nat} (h : isS p) : am_gr 8 3 p = some (p + 4) := by rcases h with rfl | rfl | rfl | rfl <;> decide +kernel
theorem f_8_4 {p : Nat} (h : isS p) : am_gr 8 4 p = some (p + 5) := by rcases h with rfl | rfl | rfl | rfl <;> decide +kernel
theorem i_8_5 {p : Nat} (h : isS p) : am_gk 0 8 5 p = true := by rcases h with rfl | rfl | rfl | rfl <;> decide +kernel
theorem f_9_0 : am_gr 9 0 10 = some 11 := by decide +kernel
theorem i_9_1 : am_gk 0 9 1 10 = true := by decide +kernel
theorem i_9_2 : am_gk 0 9 2 10 = true := by decide +kernel
theorem i_9_3 : am_gk 0 9 3 10 = true := by decide +kernel
theorem i_9_4 : am_gk 0 9 4 10 = true := by decide +kernel
theorem i_9_5 : am_gk 0 9 5 10 = true := by decide +kernel
theorem i_9_6 : am_gk 0 9 6 10 = true := by decide +kernel
theorem f_10_0 : am_gr 10 0 1 = some 2 := by decide +kernel
theorem f_10_1 : am_gr 10 1 1 = some 8 := by decide +kernel
theorem f_10_2 : am_gr 10 2 1 = some 10 := by decide +kernel
theorem f_10_3 : am_gr 10 3 1 = some 11 := by decide +kernel
theorem f_10_4 : am_gr 10 4 1 = some 17 := by decide +kernel
theorem f_10_5 : am_gr 10 5 1 = some 20 := by decide +kernel
theorem f_10_6 : am_gr 10 6 1 = some 24 := by decide +kernel
theorem f_10_7 : am_gr 10 7 1 = some 27 := by decide +kernel
theorem f_10_8 : am_gr 10 8 1 = some 30 := by decide +kernel
theorem f_10_9 : am_gr 10 9 1 = some 32 := by decide +kernel
theorem f_10_10 : am_gr 10 10 1 = some 33 := by decide +kernel
theorem f_10_11 : am_gr 10 11 1 = some 43 := by decide +kernel
theorem f_11_0 : am_gr 11 0 53 = some 54 := by decide +kernel
theorem f_11_1 : am_gr 11 1 53 = some 55 := by decide +kernel
theorem f_11_2 : am_gr 11 2 53 = some 56 := by decide +kernel
theorem f_11_3 : am_gr 11 3 53 = some 57 := by decide +kernel
theorem f_11_4 : am_gr 11 4 53 = some 58 := by decide +kernel
theorem i_11_5 : am_gk 0 11 5 53 = true := by decide +kernel
theorem f_11_6 : am_gr 11 6 53 = some 59 := by decide +kernel
theorem f_11_7 : am_gr 11 7 53 = some 60 := by decide +kernel
theorem i_11_8 : am_gk 0 11 8 53 = true := by decide +kernel
theorem f_11_9 : am_gr 11 9 53 = some 61 := by decide +kernel
theorem i_11_10 : am_gk 0 11 10 53 = true := by decide +kernel
theorem f_11_11 : am_gr 11 11 53 = some 62 := by decide +kernel
theorem f_11_12 : am_gr 11 12 53 = some 63 := by decide +kernel
theorem f_11_13 : am_gr 11 13 53 = some 64 := by decide +kernel
theorem i_11_14 : am_gk 0 11 14 53 = true := by decide +kernel
theorem i_11_15 : am_gk 0 11 15 53 = true := by decide +kernel
theorem i_11_16 : am_gk 0 11 16 53 = true := by decide +kernel
theorem f_11_17 : am_gr 11 17 53 = some 65 := by decide +kernel
theorem i_11_18 : am_gk 0 11 18 53 = true := by decide +kernel
theorem i_11_19 : am_gk 0 11 19 53 = true := by decide +kernel
theorem i_11_20 : am_gk 0 11 20 53 = true := by decide +kernel
theorem i_11_21 : am_gk 0 11 21 53 = true := by decide +kernel
theorem i_11_22 : am_gk 0 11 22 53 = true := by decide +kernel
theorem i_11_23 : am_gk 0 11 23 53 = true := by decide +kernel
theorem i_11_24 : am_gk 0 11 24 53 = true := by decide +kernel
theorem f_11_25 : am_gr 11 25 53 = some 66 := by decide +kernel
theorem f_11_26 : am_gr 11 26 53 = some 67 := by decide +kernel
theorem f_11_27 : am_gr 11 27 53 = some 68 := by decide +kernel
theorem f_11_28 : am_gr 11 28 53 = some 69 := by decide +kernel
theorem f_11_29 : am_gr 11 29 53 = some 70 := by decide +kernel
theorem i_11_30 : am_gk 1 11 30 53 = true := by decide +kernel
theorem i_11_31 : am_gk 1 11 31 53 = true := by decide +kernel
theorem f_11_32 : am_gr 11 32 53 = some 71 := by decide +kernel
theorem f_11_33 : am_gr 11 33 53 = some 72 := by decide +kernel
theorem i_11_34 : am_gk 0 11 34 53 = true := by decide +kernel
theorem i_11_35 : am_gk 3 11 35 53 = true := by decide +kernel
theorem a_3 : am_ga false 10 3 = true := by decide
theorem a_4 : am_ga false 10 4 = true := by decide
theorem a_5 : am_ga false 10 5 = true := by decide
theorem a_6 : am_ga false 10 6 = true := by decide
theorem a_7 : am_ga false 10 7 = true := by decide
theorem a_9 : am_ga false 60 9 = true := by decide
theorem a_12 : am_ga false 10 12 = true := by decide
theorem a_13 : am_ga false 10 13 = true := by decide
theorem a_14 : am_ga false 10 14 = true := by decide
theorem a_15 : am_ga false 10 15 = true := by decide
theorem a_16 : am_ga false 10 16 = true := by decide
theorem a_18 : am_ga false 1024 18 = true := by decide
theorem a_19 : am_ga false 30 19 = true := by decide
theorem a_21 : am_ga false 4 21 = true := by decide
theorem a_22 : am_ga false 3 22 = true := by decide
theorem a_23 : am_ga false 3 23 = true := by decide
theorem a_25 : am_ga false 8 25 = true := by decide
theorem a_26 : am_ga false 8 26 = true := by decide
theorem a_28 : am_ga false 5 28 = true := by decide
theorem a_29 : am_ga false 25 29 = true := by decide
theorem a_31 : am_ga false 100 31 = true := by decide
theorem a_35 : am_ga false 10 35 = true := by decide
theorem a_36 : am_ga false 10 36 = true := by decide
theorem a_37 : am_ga false 10 37 = true := by decide
theorem a_38 : am_ga false 10 38 = true := by decide
theorem a_39 : am_ga false 10 39 = true := by decide
theorem a_41 : am_ga false 8 41 = true := by decide
theorem a_42 : am_ga false 8 42 = true := by decide
theorem a_45 : am_ga false 10 45 = true := by decide
theorem a_46 : am_ga false 10 46 = true := by decide
theorem a_47 : am_ga false 10 47 = true := by decide
theorem a_48 : am_ga false 10 48 = true := by decide
theorem a_49 : am_ga false 10 49 = true := by decide
theorem a_51 : am_ga false 8 51 = true := by decide
theorem a_52 : am_ga false 8 52 = true := by decide
theorem a_54 : am_ga false 10 54 = true := by decide
theorem a_55 : am_ga false 10 55 = true := by decide
theorem a_56 : am_ga false 10 56 = true := by decide
theorem a_57 : am_ga false 10 57 = true := by decide
theorem a_58 : am_ga false 10 58 = true := by decide
theorem a_59 : am_ga false 8 59 = true := by decide
theorem a_60 : am_ga false 8 60 = true := by decide
theorem a_61 : am_ga false 60 61 = true := by decide
theorem a_62 : am_ga false 60 62 = true := by decide
theorem a_63 : am_ga false 60 63 = true := by decide
theorem a_64 : am_ga false 60 64 = true := by decide
theorem a_65 : am_ga false 51 65 = true := by decide
theorem a_66 : am_ga false 1024 66 = true := by decide
theorem a_67 : am_ga false 4 67 = true := by decide
theorem a_68 : am_ga false 5 68 = true := by decide
theorem a_69 : am_ga false 25 69 = true := by decide
theorem a_70 : am_ga false 100 70 = true := by decide
theorem a_71 : am_ga false 140 71 = true := by decide
theorem a_72 : am_ga true 2 72 = true := by decide
theorem a_S1 {p : Nat} (h : isS p) : am_ga false 10 (p + 1) = true := by rcases h with rfl | rfl | rfl | rfl <;> decide
theorem a_S2 {p : Nat} (h : isS p) : am_ga false 10 (p + 2) = true := by rcases h with rfl | rfl | rfl | rfl <;> decide
theorem a_S3 {p : Nat} (h : isS p) : am_ga false 10 (p + 3) = true := by rcases h with rfl | rfl | rfl | rfl <;> decide
theorem a_S4 {p : Nat} (h : isS p) : am_ga false 10 (p + 4) = true := by rcases h with rfl | rfl | rfl | rfl <;> decide
theorem a_S5 {p : Nat} (h : isS p) : am_ga false 10 (p + 5) = true := by rcases h with rfl | rfl | rfl | rfl <;> decide
theorem a_T1 {p : Nat} (h : isT p) : am_ga false 8 (p + 1) = true := by rcases h with rfl | rfl | rfl <;> decide
theorem a_T2 {p : Nat} (h : isT p) : am_ga false 8 (p + 2) = true := by rcases h with rfl | rfl | rfl <;> decide
theorem rc_S {p : Nat} {As : List Value} (h : isS p) : am_rc (.ref p :: As) SHP 8 = true := by rcases h with rfl | rfl | rfl | rfl <;> rfl
theorem rc_T {p : Nat} {As : List Value} (h : isT p) : am_rc (.ref p :: As) SHP 7 = true := by rcases h with rfl | rfl | rfl <;> rfl
