/-! STREET: fights -/
section C4
variable {X : aX} {m : aMem} {K : Int32 → aMem → Prop}
def duelN (s : aStr) : Nat → Nat → Nat → Nat → Nat → Nat
  | 0, a, ca, _, _ => 4 * a + ca
  | n + 1, a, ca, b, cb => if forceV s b (nI cb) ≤ forceV s a (nI ca) then (if cb + 1 = 3 then 4 * a + ca else duelN s n b (cb + 1) a ca) else (if ca + 1 = 3 then 4 * b + cb else duelN s n b cb a (ca + 1))
theorem i4_div {a c : Nat} (ha : a < 1000) (hc : c < 4) : nI (4 * a + c) / 4 = nI a := by
  rw [show (4 : Int32) = nI 4 from rfl, i_div (by omega) (by decide) (by decide)]
  congr 1
  omega
theorem i4_rem {a c : Nat} (ha : a < 1000) (hc : c < 4) : nI (4 * a + c) - nI (4 * a + c) / 4 * 4 = nI c := by
  rw [show (4 : Int32) = nI 4 from rfl, i_rem (by omega) (by decide) (by decide)]
  congr 1
  omega
theorem c_nutOf {a c : Nat} (ha : a < 1000) (hc : c < 4) (h : K (nI a) m) : gCi X 68 [.int (nI (4 * a + c))] m K := by
  refine g_inI rfl ?_
  refine g_iload_n (pc' := 1) rfl rfl rfl ?_
  refine g_iconst (pc' := 2) (v := 4) rfl rfl (by decide) ?_
  refine g_idiv (pc' := 3) rfl rfl (by decide) ?_
  refine g_vi (y := nI a) (i4_div ha hc) ?_
  exact g_ireturn rfl rfl (h)
theorem c_cracksOf {a c : Nat} (ha : a < 1000) (hc : c < 4) (h : K (nI c) m) : gCi X 69 [.int (nI (4 * a + c))] m K := by
  refine g_inI rfl ?_
  refine g_iload_n (pc' := 1) rfl rfl rfl ?_
  refine g_iconst (pc' := 2) (v := 4) rfl rfl (by decide) ?_
  refine g_irem (pc' := 3) rfl rfl (by decide) ?_
  refine g_vi (y := nI c) (i4_rem ha hc) ?_
  exact g_ireturn rfl rfl (h)
theorem c_fighterWith {a c : Nat} (h : K (nI (4 * a + c)) m) : gCi X 67 [.int (nI a), .int (nI c)] m K := by
  refine g_inI rfl ?_
  refine g_iconst (pc' := 1) (v := 4) rfl rfl (by decide) ?_
  refine g_iload_n (pc' := 2) rfl rfl rfl ?_
  refine g_imul (pc' := 3) rfl rfl ?_
  refine g_vi (y := nI (4 * a)) (pk_mul 4 a) ?_
  refine g_iload_n (pc' := 4) rfl rfl rfl ?_
  refine g_iadd (pc' := 5) rfl rfl ?_
  refine g_vi (y := nI (4 * a + c)) (nI_add _ _) ?_
  exact g_ireturn rfl rfl (h)
theorem c_fighterOf {p a c : Nat} (hp : isS p) (ha : a < 10) (hc : sC (stAt m p) a = nI c) (h : K (nI (4 * a + c)) m) : gCi X 66 [.ref p, .int (nI a)] m K := by
  refine g_inI rfl ?_
  refine g_iload_n (pc' := 1) rfl rfl rfl ?_
  refine g_aload_n (pc' := 2) rfl rfl rfl ?_
  refine g_getr (pc' := 5) rfl rfl (f_8_1 hp) ?_
  refine g_iload_n (pc' := 6) rfl rfl rfl ?_
  refine g_iald (pc' := 7) rfl rfl (a_S2 hp) ha rfl ?_
  refine g_vi (y := nI c) ((st_C ha).trans hc) ?_
  refine g_calli (pc' := 10) rfl rfl rfl rfl (Or.inl rfl) ?_
  refine c_fighterWith ?_
  exact g_ireturn rfl rfl (h)
theorem c_duel {p a0 ca0 b0 cb0 : Nat} (hp : isS p) (ha0 : a0 < 10) (hca0 : ca0 < 3) (hb0 : b0 < 10) (hcb0 : cb0 < 3) (h : K (nI (duelN (stAt m p) 5 a0 ca0 b0 cb0)) m) : gCi X 70 [.ref p, .int (nI (4 * a0 + ca0)), .int (nI (4 * b0 + cb0))] m K := by
  refine g_inI rfl ?_
  obtain ⟨x1, hx1⟩ : ∃ y, y = nI (4 * a0 + ca0) := ⟨_, rfl⟩
  obtain ⟨x2, hx2⟩ : ∃ y, y = nI (4 * b0 + cb0) := ⟨_, rfl⟩
  generalize hR : duelN (stAt m p) 5 a0 ca0 b0 cb0 = R at h
  have loop : ∀ (d i : Nat) (a ca b cb : Nat) (v6 v7 : Value), i + d = 5 → a < 10 → ca < 3 → b < 10 → cb < 3 → duelN (stAt m p) d a ca b cb = R → gG X 70 8 [.ref p, .int x1, .int x2, .int (nI (4 * a + ca)), .int (nI (4 * b + cb)), .int (nI i), v6, v7] [] m (fun r m' => ∃ v, r = some (.int v) ∧ K v m') := by
    intro d
    induction d with
    | zero =>
      intro i a ca b cb v6 v7 hd ha hca hb hcb hr
      have hi : i = 5 := by omega
      subst hi
      refine g_iload (pc' := 10) rfl rfl rfl ?_
      refine g_iconst (pc' := 11) (v := 5) rfl rfl (by decide) ?_
      refine g_icmp_ge (pc' := 14) (t := 94) rfl rfl rfl (fun c_11 => ?_) (fun c_11 => absurd (by decide) c_11)
      refine g_iload_n (pc' := 95) rfl rfl rfl ?_
      exact g_ireturn rfl rfl (g_eq h (by rw [← hr]; rfl) rfl)
    | succ d ih =>
      intro i a ca b cb v6 v7 hd ha hca hb hcb hr
      have hlt : i < 5 := by omega
      refine g_iload (pc' := 10) rfl rfl rfl ?_
      refine g_iconst (pc' := 11) (v := 5) rfl rfl (by decide) ?_
      refine g_icmp_ge (pc' := 14) (t := 94) rfl rfl rfl (fun c_11 => absurd c_11 (nI_ge (b := 5) hlt (by decide))) (fun c_11 => ?_)
      refine g_aload_n (pc' := 15) rfl rfl rfl ?_
      refine g_iload_n (pc' := 16) rfl rfl rfl ?_
      refine g_calli (pc' := 19) rfl rfl rfl rfl (Or.inl rfl) ?_
      refine c_nutOf (by omega) (by omega) ?_
      refine g_iload_n (pc' := 20) rfl rfl rfl ?_
      refine g_calli (pc' := 23) rfl rfl rfl rfl (Or.inl rfl) ?_
      refine c_cracksOf (by omega) (by omega) ?_
      refine g_calli (pc' := 26) rfl rfl rfl rfl (Or.inr (rc_S hp)) ?_
      refine c_forceOf hp ha ?_
      refine g_istore (pc' := 28) rfl rfl rfl ?_
      refine g_iload (pc' := 30) rfl rfl rfl ?_
      refine g_aload_n (pc' := 31) rfl rfl rfl ?_
      refine g_iload (pc' := 33) rfl rfl rfl ?_
      refine g_calli (pc' := 36) rfl rfl rfl rfl (Or.inl rfl) ?_
      refine c_nutOf (by omega) (by omega) ?_
      refine g_iload (pc' := 38) rfl rfl rfl ?_
      refine g_calli (pc' := 41) rfl rfl rfl rfl (Or.inl rfl) ?_
      refine c_cracksOf (by omega) (by omega) ?_
      refine g_calli (pc' := 44) rfl rfl rfl rfl (Or.inr (rc_S hp)) ?_
      refine c_forceOf hp hb ?_
      refine g_icmp_lt (pc' := 47) (t := 53) rfl rfl rfl (fun c_44 => ?_) (fun c_44 => ?_)
      · refine g_iinc (pc' := 56) (v := nI (4 * a + (ca + 1))) rfl rfl rfl (nI_1 _) rfl ?_
        refine g_iload (pc' := 58) rfl rfl rfl ?_
        refine g_calli (pc' := 61) rfl rfl rfl rfl (Or.inl rfl) ?_
        refine c_cracksOf (by omega) (by omega) ?_
        refine g_iconst (pc' := 62) (v := 3) rfl rfl (by decide) ?_
        refine g_icmp_ne (pc' := 65) (t := 67) rfl rfl rfl (fun c_62 => ?_) (fun c_62 => absurd ((nI_eq (b := 3) (by omega) (by decide)).mp c_62) (by omega))
        refine g_iload_n (pc' := 68) rfl rfl rfl ?_
        refine g_calli (pc' := 71) rfl rfl rfl rfl (Or.inl rfl) ?_
        refine c_cracksOf (by omega) (by omega) ?_
        refine g_iconst (pc' := 72) (v := 3) rfl rfl (by decide) ?_
        refine g_icmp_ne (pc' := 75) (t := 78) rfl rfl rfl (fun c_72 => ?_) (fun c_72 => ?_)
        · refine g_iload (pc' := 80) rfl rfl rfl ?_
          refine g_istore (pc' := 82) rfl rfl rfl ?_
          refine g_iload_n (pc' := 83) rfl rfl rfl ?_
          refine g_istore (pc' := 85) rfl rfl rfl ?_
          refine g_iload (pc' := 87) rfl rfl rfl ?_
          refine g_istore_n (pc' := 88) rfl rfl rfl ?_
          refine g_iinc (pc' := 91) (v := nI (i + 1)) rfl rfl rfl (nI_1 i) rfl ?_
          refine g_goto (pc' := 8) rfl rfl ?_
          have hne : ¬ ca + 1 = 3 := fun z => c_72 (by rw [z]; rfl)
          exact ih (i + 1) b cb a (ca + 1) _ _ (by omega) hb hcb ha (by omega) (by rw [← hr, duelN, if_neg (i_lt_nle c_44), if_neg hne])
        · refine g_iload (pc' := 77) rfl rfl rfl ?_
          exact g_ireturn rfl rfl (g_eq h (by rw [← hr, duelN, if_neg (i_lt_nle c_44), if_pos ((nI_eq (b := 3) (by omega) (by decide)).mp c_72)]) rfl)
      · refine g_iinc (pc' := 50) (v := nI (4 * b + (cb + 1))) rfl rfl rfl (nI_1 _) rfl ?_
        refine g_goto (pc' := 56) rfl rfl ?_
        refine g_iload (pc' := 58) rfl rfl rfl ?_
        refine g_calli (pc' := 61) rfl rfl rfl rfl (Or.inl rfl) ?_
        refine c_cracksOf (by omega) (by omega) ?_
        refine g_iconst (pc' := 62) (v := 3) rfl rfl (by decide) ?_
        refine g_icmp_ne (pc' := 65) (t := 67) rfl rfl rfl (fun c_62 => ?_) (fun c_62 => ?_)
        · refine g_iload_n (pc' := 68) rfl rfl rfl ?_
          refine g_calli (pc' := 71) rfl rfl rfl rfl (Or.inl rfl) ?_
          refine c_cracksOf (by omega) (by omega) ?_
          refine g_iconst (pc' := 72) (v := 3) rfl rfl (by decide) ?_
          refine g_icmp_ne (pc' := 75) (t := 78) rfl rfl rfl (fun c_72 => ?_) (fun c_72 => absurd ((nI_eq (b := 3) (by omega) (by decide)).mp c_72) (by omega))
          refine g_iload (pc' := 80) rfl rfl rfl ?_
          refine g_istore (pc' := 82) rfl rfl rfl ?_
          refine g_iload_n (pc' := 83) rfl rfl rfl ?_
          refine g_istore (pc' := 85) rfl rfl rfl ?_
          refine g_iload (pc' := 87) rfl rfl rfl ?_
          refine g_istore_n (pc' := 88) rfl rfl rfl ?_
          refine g_iinc (pc' := 91) (v := nI (i + 1)) rfl rfl rfl (nI_1 i) rfl ?_
          refine g_goto (pc' := 8) rfl rfl ?_
          have hne : ¬ cb + 1 = 3 := fun z => c_62 (by rw [z]; rfl)
          exact ih (i + 1) b (cb + 1) a ca _ _ (by omega) hb (by omega) ha hca (by rw [← hr, duelN, if_pos (i_nlt_le c_44), if_neg hne])
        · refine g_iload_n (pc' := 66) rfl rfl rfl ?_
          exact g_ireturn rfl rfl (g_eq h (by rw [← hr, duelN, if_pos (i_nlt_le c_44), if_pos ((nI_eq (b := 3) (by omega) (by decide)).mp c_62)]) rfl)
  rw [← hx1, ← hx2]
  refine g_iload_n (pc' := 1) rfl rfl rfl ?_
  refine g_istore_n (pc' := 2) rfl rfl rfl ?_
  refine g_iload_n (pc' := 3) rfl rfl rfl ?_
  refine g_istore (pc' := 5) rfl rfl rfl ?_
  refine g_iconst (pc' := 6) (v := 0) rfl rfl (by decide) ?_
  refine g_istore (pc' := 8) rfl rfl rfl ?_
  subst hx1
  subst hx2
  exact loop 5 0 a0 ca0 b0 cb0 _ _ rfl ha0 hca0 hb0 hcb0 hR
end C4
