/-! STREET: acts, years, fights -/
section C3
variable {X : aX} {m : aMem} {K : Int32 → aMem → Prop}
theorem strike_hit {s : aStr} {a b hit oth : Nat} (e1 : hitOf s a b = hit) (e2 : othOf s a b = oth) : strikeS s a b = if sC (hurt s hit) hit = 3 then (eat (hurt s hit) oth hit, nI hit) else (hurt s hit, -6) := by
  unfold strikeS
  rw [e1, e2]
theorem c_strike {p a b : Nat} (hp : isS p) (ha : a < 10) (hb : b < 10) (h : ∀ m', Fr p (p + 6) m m' → stAt m' p = (strikeS (stAt m p) a b).1 → K (strikeS (stAt m p) a b).2 m') : gCi X 60 [.ref p, .int (nI a), .int (nI b)] m K := by
  refine g_inI rfl ?_
  refine g_aload_n (pc' := 1) rfl rfl rfl ?_
  refine g_iload_n (pc' := 2) rfl rfl rfl ?_
  refine g_aload_n (pc' := 3) rfl rfl rfl ?_
  refine g_getr (pc' := 6) rfl rfl (f_8_1 hp) ?_
  refine g_iload_n (pc' := 7) rfl rfl rfl ?_
  refine g_iald (pc' := 8) rfl rfl (a_S2 hp) ha rfl ?_
  refine g_vi (y := sC (stAt m p) a) (st_C ha) ?_
  refine g_calli (pc' := 11) rfl rfl rfl rfl (Or.inr (rc_S hp)) ?_
  refine c_forceOf hp ha ?_
  refine g_aload_n (pc' := 12) rfl rfl rfl ?_
  refine g_iload_n (pc' := 13) rfl rfl rfl ?_
  refine g_aload_n (pc' := 14) rfl rfl rfl ?_
  refine g_getr (pc' := 17) rfl rfl (f_8_1 hp) ?_
  refine g_iload_n (pc' := 18) rfl rfl rfl ?_
  refine g_iald (pc' := 19) rfl rfl (a_S2 hp) hb rfl ?_
  refine g_vi (y := sC (stAt m p) b) (st_C hb) ?_
  refine g_calli (pc' := 22) rfl rfl rfl rfl (Or.inr (rc_S hp)) ?_
  refine c_forceOf hp hb ?_
  refine g_icmp_lt (pc' := 25) (t := 29) rfl rfl rfl (fun c_22 => ?_) (fun c_22 => ?_)
  · refine g_iconst (pc' := 30) (v := 0) rfl rfl (by decide) ?_
    refine g_istore_n (pc' := 31) rfl rfl rfl ?_
    refine g_iload_n (pc' := 32) rfl rfl rfl ?_
    refine g_if_eq (pc' := 35) (t := 39) rfl rfl rfl (fun _ => ?_) (fun c => absurd c (by decide))
    refine g_iload_n (pc' := 40) rfl rfl rfl ?_
    refine g_istore (pc' := 42) rfl rfl rfl ?_
    refine g_iload_n (pc' := 43) rfl rfl rfl ?_
    refine g_if_eq (pc' := 46) (t := 50) rfl rfl rfl (fun _ => ?_) (fun c => absurd c (by decide))
    refine g_iload_n (pc' := 51) rfl rfl rfl ?_
    refine g_istore (pc' := 53) rfl rfl rfl ?_
    refine g_aload_n (pc' := 54) rfl rfl rfl ?_
    refine g_getr (pc' := 57) rfl rfl (f_8_1 hp) ?_
    refine g_iload (pc' := 59) rfl rfl rfl ?_
    refine g_dup2 (pc' := 60) rfl rfl ?_
    refine g_iald (pc' := 61) rfl rfl (a_S2 hp) ha rfl ?_
    refine g_vi (y := sC (stAt m p) a) (st_C ha) ?_
    refine g_iconst (pc' := 62) (v := 1) rfl rfl (by decide) ?_
    refine g_iadd (pc' := 63) rfl rfl ?_
    refine g_iast (pc' := 64) rfl rfl (a_S2 hp) ha rfl ?_
    refine g_mem (fun m1 hm1 => ?_)
    have hF1 : Fr p (p + 6) m m1 := by rw [hm1]; exact Fr.rf.s (by omega) (by omega)
    have hs1 : stAt m1 p = hurt (stAt m p) a := by rw [hm1, st_wC ha]; rfl
    have hst := strike_hit (s := stAt m p) (a := a) (b := b) (hit := a) (oth := b) (if_neg (i_lt_nle c_22)) (if_neg (i_lt_nle c_22))
    refine g_aload_n (pc' := 65) rfl rfl rfl ?_
    refine g_iload (pc' := 67) rfl rfl rfl ?_
    refine g_calli (pc' := 70) rfl rfl rfl rfl (Or.inr (rc_S hp)) ?_
    refine c_isBroken hp ha (fun q => ?_) (fun q => ?_)
    · refine g_if_ne (pc' := 73) (t := 76) rfl rfl rfl (fun _ => ?_) (fun c => absurd c (by decide))
      refine g_aload_n (pc' := 77) rfl rfl rfl ?_
      refine g_getr (pc' := 80) rfl rfl (f_8_2 hp) ?_
      refine g_iload (pc' := 82) rfl rfl rfl ?_
      refine g_dup2 (pc' := 83) rfl rfl ?_
      refine g_iald (pc' := 84) rfl rfl (a_S3 hp) hb rfl ?_
      refine g_vi (y := sS (stAt m1 p) b) (st_S hb) ?_
      refine g_aload_n (pc' := 85) rfl rfl rfl ?_
      refine g_getr (pc' := 88) rfl rfl (f_8_2 hp) ?_
      refine g_iload (pc' := 90) rfl rfl rfl ?_
      refine g_iald (pc' := 91) rfl rfl (a_S3 hp) ha rfl ?_
      refine g_vi (y := sS (stAt m1 p) a) (st_S ha) ?_
      refine g_iadd (pc' := 92) rfl rfl ?_
      refine g_iast (pc' := 93) rfl rfl (a_S3 hp) hb rfl ?_
      refine g_mem (fun m2 hm2 => ?_)
      have hF2 : Fr p (p + 6) m m2 := by rw [hm2]; exact hF1.s (by omega) (by omega)
      have hs2 : stAt m2 p = uS (stAt m1 p) b (sS (stAt m1 p) b + sS (stAt m1 p) a) := by rw [hm2, st_wS hb]
      refine g_aload_n (pc' := 94) rfl rfl rfl ?_
      refine g_getr (pc' := 97) rfl rfl (f_8_4 hp) ?_
      refine g_iload (pc' := 99) rfl rfl rfl ?_
      refine g_dup2 (pc' := 100) rfl rfl ?_
      refine g_iald (pc' := 101) rfl rfl (a_S5 hp) hb rfl ?_
      refine g_vi (y := sI (stAt m1 p) b) ((st_I hb).trans (by rw [hs2]; rfl)) ?_
      refine g_aload_n (pc' := 102) rfl rfl rfl ?_
      refine g_getr (pc' := 105) rfl rfl (f_8_4 hp) ?_
      refine g_iload (pc' := 107) rfl rfl rfl ?_
      refine g_iald (pc' := 108) rfl rfl (a_S5 hp) ha rfl ?_
      refine g_vi (y := sI (stAt m1 p) a) ((st_I ha).trans (by rw [hs2]; rfl)) ?_
      refine g_ior (pc' := 109) rfl rfl ?_
      refine g_iast (pc' := 110) rfl rfl (a_S5 hp) hb rfl ?_
      refine g_iload (pc' := 112) rfl rfl rfl ?_
      exact g_ireturn rfl rfl (g_eq (h _ (hF2.s (by omega) (by omega)) (by rw [st_wI hb, hs2, hst, if_pos (by rw [← hs1]; exact q), ← hs1]; rfl)) (by rw [hst, if_pos (by rw [← hs1]; exact q)]) rfl)
    · refine g_if_ne (pc' := 73) (t := 76) rfl rfl rfl (fun c => absurd c (by decide)) (fun _ => ?_)
      refine g_bipush (pc' := 75) (v := -6) rfl rfl (by decide) ?_
      exact g_ireturn rfl rfl (g_eq (h m1 hF1 (by rw [hs1, hst, if_neg (by rw [← hs1]; exact q)])) (by rw [hst, if_neg (by rw [← hs1]; exact q)]) rfl)
  · refine g_iconst (pc' := 26) (v := 1) rfl rfl (by decide) ?_
    refine g_goto (pc' := 30) rfl rfl ?_
    refine g_istore_n (pc' := 31) rfl rfl rfl ?_
    refine g_iload_n (pc' := 32) rfl rfl rfl ?_
    refine g_if_eq (pc' := 35) (t := 39) rfl rfl rfl (fun c => absurd c (by decide)) (fun _ => ?_)
    refine g_iload_n (pc' := 36) rfl rfl rfl ?_
    refine g_goto (pc' := 40) rfl rfl ?_
    refine g_istore (pc' := 42) rfl rfl rfl ?_
    refine g_iload_n (pc' := 43) rfl rfl rfl ?_
    refine g_if_eq (pc' := 46) (t := 50) rfl rfl rfl (fun c => absurd c (by decide)) (fun _ => ?_)
    refine g_iload_n (pc' := 47) rfl rfl rfl ?_
    refine g_goto (pc' := 51) rfl rfl ?_
    refine g_istore (pc' := 53) rfl rfl rfl ?_
    refine g_aload_n (pc' := 54) rfl rfl rfl ?_
    refine g_getr (pc' := 57) rfl rfl (f_8_1 hp) ?_
    refine g_iload (pc' := 59) rfl rfl rfl ?_
    refine g_dup2 (pc' := 60) rfl rfl ?_
    refine g_iald (pc' := 61) rfl rfl (a_S2 hp) hb rfl ?_
    refine g_vi (y := sC (stAt m p) b) (st_C hb) ?_
    refine g_iconst (pc' := 62) (v := 1) rfl rfl (by decide) ?_
    refine g_iadd (pc' := 63) rfl rfl ?_
    refine g_iast (pc' := 64) rfl rfl (a_S2 hp) hb rfl ?_
    refine g_mem (fun m1 hm1 => ?_)
    have hF1 : Fr p (p + 6) m m1 := by rw [hm1]; exact Fr.rf.s (by omega) (by omega)
    have hs1 : stAt m1 p = hurt (stAt m p) b := by rw [hm1, st_wC hb]; rfl
    have hst := strike_hit (s := stAt m p) (a := a) (b := b) (hit := b) (oth := a) (if_pos (i_nlt_le c_22)) (if_pos (i_nlt_le c_22))
    refine g_aload_n (pc' := 65) rfl rfl rfl ?_
    refine g_iload (pc' := 67) rfl rfl rfl ?_
    refine g_calli (pc' := 70) rfl rfl rfl rfl (Or.inr (rc_S hp)) ?_
    refine c_isBroken hp hb (fun q => ?_) (fun q => ?_)
    · refine g_if_ne (pc' := 73) (t := 76) rfl rfl rfl (fun _ => ?_) (fun c => absurd c (by decide))
      refine g_aload_n (pc' := 77) rfl rfl rfl ?_
      refine g_getr (pc' := 80) rfl rfl (f_8_2 hp) ?_
      refine g_iload (pc' := 82) rfl rfl rfl ?_
      refine g_dup2 (pc' := 83) rfl rfl ?_
      refine g_iald (pc' := 84) rfl rfl (a_S3 hp) ha rfl ?_
      refine g_vi (y := sS (stAt m1 p) a) (st_S ha) ?_
      refine g_aload_n (pc' := 85) rfl rfl rfl ?_
      refine g_getr (pc' := 88) rfl rfl (f_8_2 hp) ?_
      refine g_iload (pc' := 90) rfl rfl rfl ?_
      refine g_iald (pc' := 91) rfl rfl (a_S3 hp) hb rfl ?_
      refine g_vi (y := sS (stAt m1 p) b) (st_S hb) ?_
      refine g_iadd (pc' := 92) rfl rfl ?_
      refine g_iast (pc' := 93) rfl rfl (a_S3 hp) ha rfl ?_
      refine g_mem (fun m2 hm2 => ?_)
      have hF2 : Fr p (p + 6) m m2 := by rw [hm2]; exact hF1.s (by omega) (by omega)
      have hs2 : stAt m2 p = uS (stAt m1 p) a (sS (stAt m1 p) a + sS (stAt m1 p) b) := by rw [hm2, st_wS ha]
      refine g_aload_n (pc' := 94) rfl rfl rfl ?_
      refine g_getr (pc' := 97) rfl rfl (f_8_4 hp) ?_
      refine g_iload (pc' := 99) rfl rfl rfl ?_
      refine g_dup2 (pc' := 100) rfl rfl ?_
      refine g_iald (pc' := 101) rfl rfl (a_S5 hp) ha rfl ?_
      refine g_vi (y := sI (stAt m1 p) a) ((st_I ha).trans (by rw [hs2]; rfl)) ?_
      refine g_aload_n (pc' := 102) rfl rfl rfl ?_
      refine g_getr (pc' := 105) rfl rfl (f_8_4 hp) ?_
      refine g_iload (pc' := 107) rfl rfl rfl ?_
      refine g_iald (pc' := 108) rfl rfl (a_S5 hp) hb rfl ?_
      refine g_vi (y := sI (stAt m1 p) b) ((st_I hb).trans (by rw [hs2]; rfl)) ?_
      refine g_ior (pc' := 109) rfl rfl ?_
      refine g_iast (pc' := 110) rfl rfl (a_S5 hp) ha rfl ?_
      refine g_iload (pc' := 112) rfl rfl rfl ?_
      exact g_ireturn rfl rfl (g_eq (h _ (hF2.s (by omega) (by omega)) (by rw [st_wI ha, hs2, hst, if_pos (by rw [← hs1]; exact q), ← hs1]; rfl)) (by rw [hst, if_pos (by rw [← hs1]; exact q)]) rfl)
    · refine g_if_ne (pc' := 73) (t := 76) rfl rfl rfl (fun c => absurd c (by decide)) (fun _ => ?_)
      refine g_bipush (pc' := 75) (v := -6) rfl rfl (by decide) ?_
      exact g_ireturn rfl rfl (g_eq (h m1 hF1 (by rw [hs1, hst, if_neg (by rw [← hs1]; exact q)])) (by rw [hst, if_neg (by rw [← hs1]; exact q)]) rfl)
theorem c_bake {p k : Nat} (hp : isS p) (hk : k < 10) (h : ∀ m', Fr p (p + 6) m m' → stAt m' p = (bakeS (stAt m p) k).1 → K (bakeS (stAt m p) k).2 m') : gCi X 61 [.ref p, .int (nI k)] m K := by
  refine g_inI rfl ?_
  refine g_aload_n (pc' := 1) rfl rfl rfl ?_
  refine g_getr (pc' := 4) rfl rfl (f_8_0 hp) ?_
  refine g_iload_n (pc' := 5) rfl rfl rfl ?_
  refine g_iald (pc' := 6) rfl rfl (a_S1 hp) hk rfl ?_
  refine g_vi (y := sH (stAt m p) k) (st_H hk) ?_
  refine g_bipush (pc' := 8) (v := 60) rfl rfl (by decide) ?_
  refine g_icmp_lt (pc' := 11) (t := 21) rfl rfl rfl (fun c_8 => ?_) (fun c_8 => ?_)
  · refine g_aload_n (pc' := 22) rfl rfl rfl ?_
    refine g_getr (pc' := 25) rfl rfl (f_8_0 hp) ?_
    refine g_iload_n (pc' := 26) rfl rfl rfl ?_
    refine g_bipush (pc' := 28) (v := 99) rfl rfl (by decide) ?_
    refine g_aload_n (pc' := 29) rfl rfl rfl ?_
    refine g_getr (pc' := 32) rfl rfl (f_8_0 hp) ?_
    refine g_iload_n (pc' := 33) rfl rfl rfl ?_
    refine g_iald (pc' := 34) rfl rfl (a_S1 hp) hk rfl ?_
    refine g_vi (y := sH (stAt m p) k) ((st_H hk).trans (by rfl)) ?_
    refine g_bipush (pc' := 36) (v := 10) rfl rfl (by decide) ?_
    refine g_iadd (pc' := 37) rfl rfl ?_
    refine g_min (pc' := 40) (b := 0) rfl rfl rfl ?_
    refine g_vi (y := minV 99 (sH (stAt m p) k + 10)) (rfl) ?_
    refine g_iast (pc' := 41) rfl rfl (a_S1 hp) hk rfl ?_
    refine g_mem (fun m2 hm2 => ?_)
    have hF2 : Fr p (p + 6) m m2 := by rw [hm2]; exact (Fr.rf (m := m)).s (by omega) (by omega)
    have hs2 : stAt m2 p = bakeS1 (stAt m p) k := by rw [hm2, st_wH hk]; unfold bakeS1; rw [if_neg (i_lt_nle c_8)]
    refine g_aload_n (pc' := 42) rfl rfl rfl ?_
    refine g_iload_n (pc' := 43) rfl rfl rfl ?_
    refine g_calli (pc' := 46) rfl rfl rfl rfl (Or.inr (rc_S hp)) ?_
    refine c_isBroken hp hk (fun q => ?_) (fun q => ?_)
    · refine g_if_eq (pc' := 49) (t := 53) rfl rfl rfl (fun c => absurd c (by decide)) (fun _ => ?_)
      refine g_iload_n (pc' := 50) rfl rfl rfl ?_
      refine g_goto (pc' := 55) rfl rfl ?_
      exact g_ireturn rfl rfl (g_eq (h m2 hF2 hs2) (by show _ = if _ then _ else _; rw [if_pos (by rw [← hs2]; exact q)]) rfl)
    · refine g_if_eq (pc' := 49) (t := 53) rfl rfl rfl (fun _ => ?_) (fun c => absurd c (by decide))
      refine g_bipush (pc' := 55) (v := -6) rfl rfl (by decide) ?_
      exact g_ireturn rfl rfl (g_eq (h m2 hF2 hs2) (by show _ = if _ then _ else _; rw [if_neg (by rw [← hs2]; exact q)]) rfl)
  · refine g_aload_n (pc' := 12) rfl rfl rfl ?_
    refine g_getr (pc' := 15) rfl rfl (f_8_1 hp) ?_
    refine g_iload_n (pc' := 16) rfl rfl rfl ?_
    refine g_dup2 (pc' := 17) rfl rfl ?_
    refine g_iald (pc' := 18) rfl rfl (a_S2 hp) hk rfl ?_
    refine g_vi (y := sC (stAt m p) k) (st_C hk) ?_
    refine g_iconst (pc' := 19) (v := 1) rfl rfl (by decide) ?_
    refine g_iadd (pc' := 20) rfl rfl ?_
    refine g_iast (pc' := 21) rfl rfl (a_S2 hp) hk rfl ?_
    refine g_mem (fun m1 hm1 => ?_)
    have hF1 : Fr p (p + 6) m m1 := by rw [hm1]; exact Fr.rf.s (by omega) (by omega)
    have hs1 : stAt m1 p = hurt (stAt m p) k := by rw [hm1, st_wC hk]; rfl
    refine g_aload_n (pc' := 22) rfl rfl rfl ?_
    refine g_getr (pc' := 25) rfl rfl (f_8_0 hp) ?_
    refine g_iload_n (pc' := 26) rfl rfl rfl ?_
    refine g_bipush (pc' := 28) (v := 99) rfl rfl (by decide) ?_
    refine g_aload_n (pc' := 29) rfl rfl rfl ?_
    refine g_getr (pc' := 32) rfl rfl (f_8_0 hp) ?_
    refine g_iload_n (pc' := 33) rfl rfl rfl ?_
    refine g_iald (pc' := 34) rfl rfl (a_S1 hp) hk rfl ?_
    refine g_vi (y := sH (stAt m p) k) ((st_H hk).trans (by rw [hs1]; rfl)) ?_
    refine g_bipush (pc' := 36) (v := 10) rfl rfl (by decide) ?_
    refine g_iadd (pc' := 37) rfl rfl ?_
    refine g_min (pc' := 40) (b := 0) rfl rfl rfl ?_
    refine g_vi (y := minV 99 (sH (stAt m p) k + 10)) (rfl) ?_
    refine g_iast (pc' := 41) rfl rfl (a_S1 hp) hk rfl ?_
    refine g_mem (fun m2 hm2 => ?_)
    have hF2 : Fr p (p + 6) m m2 := by rw [hm2]; exact hF1.s (by omega) (by omega)
    have hs2 : stAt m2 p = bakeS1 (stAt m p) k := by rw [hm2, st_wH hk]; unfold bakeS1; rw [hs1, if_pos (i_nlt_le c_8)]
    refine g_aload_n (pc' := 42) rfl rfl rfl ?_
    refine g_iload_n (pc' := 43) rfl rfl rfl ?_
    refine g_calli (pc' := 46) rfl rfl rfl rfl (Or.inr (rc_S hp)) ?_
    refine c_isBroken hp hk (fun q => ?_) (fun q => ?_)
    · refine g_if_eq (pc' := 49) (t := 53) rfl rfl rfl (fun c => absurd c (by decide)) (fun _ => ?_)
      refine g_iload_n (pc' := 50) rfl rfl rfl ?_
      refine g_goto (pc' := 55) rfl rfl ?_
      exact g_ireturn rfl rfl (g_eq (h m2 hF2 hs2) (by show _ = if _ then _ else _; rw [if_pos (by rw [← hs2]; exact q)]) rfl)
    · refine g_if_eq (pc' := 49) (t := 53) rfl rfl rfl (fun _ => ?_) (fun c => absurd c (by decide))
      refine g_bipush (pc' := 55) (v := -6) rfl rfl (by decide) ?_
      exact g_ireturn rfl rfl (g_eq (h m2 hF2 hs2) (by show _ = if _ then _ else _; rw [if_neg (by rw [← hs2]; exact q)]) rfl)
theorem c_whyNot0 {p a b : Nat} (hp : isS p) (ha : a < 10) (hb : b < 10) (h : K (whyS (stAt m p) 0 a b) m) : gCi X 58 [.ref p, .int (nI 0), .int (nI a), .int (nI b)] m K := by
  refine g_inI rfl ?_
  refine g_iload_n (pc' := 1) rfl rfl rfl ?_
  refine g_iconst (pc' := 2) (v := 3) rfl rfl (by decide) ?_
  refine g_icmp_ne (pc' := 5) (t := 20) rfl rfl rfl (fun _ => ?_) (fun c => absurd c (by decide))
  refine g_aload_n (pc' := 21) rfl rfl rfl ?_
  refine g_iload_n (pc' := 22) rfl rfl rfl ?_
  refine g_calli (pc' := 25) rfl rfl rfl rfl (Or.inr (rc_S hp)) ?_
  refine c_isBroken hp ha (fun qha => ?_) (fun qha => ?_)
  · refine g_if_ne (pc' := 28) (t := 40) rfl rfl rfl (fun _ => ?_) (fun c => absurd c (by decide))
    refine g_iconst (pc' := 41) (v := 1) rfl rfl (by decide) ?_
    exact g_ireturn rfl rfl (g_eq h (by rw [whyS, if_neg (by decide), if_pos (Or.inl qha)]) rfl)
  · refine g_if_ne (pc' := 28) (t := 40) rfl rfl rfl (fun c => absurd c (by decide)) (fun _ => ?_)
    refine g_iload_n (pc' := 29) rfl rfl rfl ?_
    refine g_if_ne (pc' := 32) (t := 42) rfl rfl rfl (fun c => absurd c (by decide)) (fun _ => ?_)
    refine g_aload_n (pc' := 33) rfl rfl rfl ?_
    refine g_iload_n (pc' := 34) rfl rfl rfl ?_
    refine g_calli (pc' := 37) rfl rfl rfl rfl (Or.inr (rc_S hp)) ?_
    refine c_isBroken hp hb (fun qhb => ?_) (fun qhb => ?_)
    · refine g_if_eq (pc' := 40) (t := 42) rfl rfl rfl (fun c => absurd c (by decide)) (fun _ => ?_)
      refine g_iconst (pc' := 41) (v := 1) rfl rfl (by decide) ?_
      exact g_ireturn rfl rfl (g_eq h (by rw [whyS, if_neg (by decide), if_pos (Or.inr ⟨rfl, qhb⟩)]) rfl)
    · refine g_if_eq (pc' := 40) (t := 42) rfl rfl rfl (fun _ => ?_) (fun c => absurd c (by decide))
      refine g_iload_n (pc' := 43) rfl rfl rfl ?_
      refine g_if_ne (pc' := 46) (t := 67) rfl rfl rfl (fun c => absurd c (by decide)) (fun _ => ?_)
      refine g_aload_n (pc' := 47) rfl rfl rfl ?_
      refine g_getr (pc' := 50) rfl rfl (f_8_3 hp) ?_
      refine g_iload_n (pc' := 51) rfl rfl rfl ?_
      refine g_iald (pc' := 52) rfl rfl (a_S4 hp) ha rfl ?_
      refine g_vi (y := sO (stAt m p) a) (st_O ha) ?_
      refine g_aload_n (pc' := 53) rfl rfl rfl ?_
      refine g_getr (pc' := 56) rfl rfl (f_8_3 hp) ?_
      refine g_iload_n (pc' := 57) rfl rfl rfl ?_
      refine g_iald (pc' := 58) rfl rfl (a_S4 hp) hb rfl ?_
      refine g_vi (y := sO (stAt m p) b) (st_O hb) ?_
      refine g_icmp_ne (pc' := 61) (t := 65) rfl rfl rfl (fun c_58 => ?_) (fun c_58 => ?_)
      · refine g_iconst (pc' := 66) (v := 0) rfl rfl (by decide) ?_
        exact g_ireturn rfl rfl (g_eq h (by rw [whyS, if_neg (by decide), if_neg (fun z => z.elim qha (fun w => qhb w.2)), if_pos rfl, if_neg c_58]) rfl)
      · refine g_iconst (pc' := 62) (v := 2) rfl rfl (by decide) ?_
        refine g_goto (pc' := 66) rfl rfl ?_
        exact g_ireturn rfl rfl (g_eq h (by rw [whyS, if_neg (by decide), if_neg (fun z => z.elim qha (fun w => qhb w.2)), if_pos rfl, if_pos c_58]) rfl)
theorem c_whyNot1 {p a b : Nat} (hp : isS p) (ha : a < 10) (h : K (whyS (stAt m p) 1 a b) m) : gCi X 58 [.ref p, .int (nI 1), .int (nI a), .int (nI b)] m K := by
  refine g_inI rfl ?_
  refine g_iload_n (pc' := 1) rfl rfl rfl ?_
  refine g_iconst (pc' := 2) (v := 3) rfl rfl (by decide) ?_
  refine g_icmp_ne (pc' := 5) (t := 20) rfl rfl rfl (fun _ => ?_) (fun c => absurd c (by decide))
  refine g_aload_n (pc' := 21) rfl rfl rfl ?_
  refine g_iload_n (pc' := 22) rfl rfl rfl ?_
  refine g_calli (pc' := 25) rfl rfl rfl rfl (Or.inr (rc_S hp)) ?_
  refine c_isBroken hp ha (fun qha => ?_) (fun qha => ?_)
  · refine g_if_ne (pc' := 28) (t := 40) rfl rfl rfl (fun _ => ?_) (fun c => absurd c (by decide))
    refine g_iconst (pc' := 41) (v := 1) rfl rfl (by decide) ?_
    exact g_ireturn rfl rfl (g_eq h (by rw [whyS, if_neg (by decide), if_pos (Or.inl qha)]) rfl)
  · refine g_if_ne (pc' := 28) (t := 40) rfl rfl rfl (fun c => absurd c (by decide)) (fun _ => ?_)
    refine g_iload_n (pc' := 29) rfl rfl rfl ?_
    refine g_if_ne (pc' := 32) (t := 42) rfl rfl rfl (fun _ => ?_) (fun c => absurd c (by decide))
    refine g_iload_n (pc' := 43) rfl rfl rfl ?_
    refine g_if_ne (pc' := 46) (t := 67) rfl rfl rfl (fun _ => ?_) (fun c => absurd c (by decide))
    refine g_iload_n (pc' := 68) rfl rfl rfl ?_
    refine g_iconst (pc' := 69) (v := 1) rfl rfl (by decide) ?_
    refine g_icmp_ne (pc' := 72) (t := 89) rfl rfl rfl (fun c => absurd c (by decide)) (fun _ => ?_)
    refine g_aload_n (pc' := 73) rfl rfl rfl ?_
    refine g_getr (pc' := 76) rfl rfl (f_8_0 hp) ?_
    refine g_iload_n (pc' := 77) rfl rfl rfl ?_
    refine g_iald (pc' := 78) rfl rfl (a_S1 hp) ha rfl ?_
    refine g_vi (y := sH (stAt m p) a) (st_H ha) ?_
    refine g_bipush (pc' := 80) (v := 99) rfl rfl (by decide) ?_
    refine g_icmp_lt (pc' := 83) (t := 87) rfl rfl rfl (fun c_80 => ?_) (fun c_80 => ?_)
    · refine g_iconst (pc' := 88) (v := 0) rfl rfl (by decide) ?_
      exact g_ireturn rfl rfl (g_eq h (by rw [whyS, if_neg (by decide), if_neg (fun z => z.elim qha (fun w => absurd w.1 (by decide))), if_neg (by decide), if_pos rfl, if_pos c_80]) rfl)
    · refine g_iconst (pc' := 84) (v := 3) rfl rfl (by decide) ?_
      refine g_goto (pc' := 88) rfl rfl ?_
      exact g_ireturn rfl rfl (g_eq h (by rw [whyS, if_neg (by decide), if_neg (fun z => z.elim qha (fun w => absurd w.1 (by decide))), if_neg (by decide), if_pos rfl, if_neg c_80]) rfl)
theorem c_whyNot2 {p a b : Nat} (hp : isS p) (ha : a < 10) (h : K (whyS (stAt m p) 2 a b) m) : gCi X 58 [.ref p, .int (nI 2), .int (nI a), .int (nI b)] m K := by
  refine g_inI rfl ?_
  refine g_iload_n (pc' := 1) rfl rfl rfl ?_
  refine g_iconst (pc' := 2) (v := 3) rfl rfl (by decide) ?_
  refine g_icmp_ne (pc' := 5) (t := 20) rfl rfl rfl (fun _ => ?_) (fun c => absurd c (by decide))
  refine g_aload_n (pc' := 21) rfl rfl rfl ?_
  refine g_iload_n (pc' := 22) rfl rfl rfl ?_
  refine g_calli (pc' := 25) rfl rfl rfl rfl (Or.inr (rc_S hp)) ?_
  refine c_isBroken hp ha (fun qha => ?_) (fun qha => ?_)
  · refine g_if_ne (pc' := 28) (t := 40) rfl rfl rfl (fun _ => ?_) (fun c => absurd c (by decide))
    refine g_iconst (pc' := 41) (v := 1) rfl rfl (by decide) ?_
    exact g_ireturn rfl rfl (g_eq h (by rw [whyS, if_neg (by decide), if_pos (Or.inl qha)]) rfl)
  · refine g_if_ne (pc' := 28) (t := 40) rfl rfl rfl (fun c => absurd c (by decide)) (fun _ => ?_)
    refine g_iload_n (pc' := 29) rfl rfl rfl ?_
    refine g_if_ne (pc' := 32) (t := 42) rfl rfl rfl (fun _ => ?_) (fun c => absurd c (by decide))
    refine g_iload_n (pc' := 43) rfl rfl rfl ?_
    refine g_if_ne (pc' := 46) (t := 67) rfl rfl rfl (fun _ => ?_) (fun c => absurd c (by decide))
    refine g_iload_n (pc' := 68) rfl rfl rfl ?_
    refine g_iconst (pc' := 69) (v := 1) rfl rfl (by decide) ?_
    refine g_icmp_ne (pc' := 72) (t := 89) rfl rfl rfl (fun _ => ?_) (fun c => absurd c (by decide))
    refine g_aload_n (pc' := 90) rfl rfl rfl ?_
    refine g_getr (pc' := 93) rfl rfl (f_8_3 hp) ?_
    refine g_iload_n (pc' := 94) rfl rfl rfl ?_
    refine g_iald (pc' := 95) rfl rfl (a_S4 hp) ha rfl ?_
    refine g_vi (y := sO (stAt m p) a) (st_O ha) ?_
    refine g_iload_n (pc' := 96) rfl rfl rfl ?_
    refine g_icmp_ne (pc' := 99) (t := 103) rfl rfl rfl (fun c_96 => ?_) (fun c_96 => ?_)
    · refine g_iconst (pc' := 104) (v := 0) rfl rfl (by decide) ?_
      exact g_ireturn rfl rfl (g_eq h (by rw [whyS, if_neg (by decide), if_neg (fun z => z.elim qha (fun w => absurd w.1 (by decide))), if_neg (by decide), if_neg (by decide), if_neg c_96]) rfl)
    · refine g_iconst (pc' := 100) (v := 4) rfl rfl (by decide) ?_
      refine g_goto (pc' := 104) rfl rfl ?_
      exact g_ireturn rfl rfl (g_eq h (by rw [whyS, if_neg (by decide), if_neg (fun z => z.elim qha (fun w => absurd w.1 (by decide))), if_neg (by decide), if_neg (by decide), if_pos c_96]) rfl)
theorem c_whyNot3 {p a b : Nat} (hp : isS p) (h : K (whyS (stAt m p) 3 a b) m) : gCi X 58 [.ref p, .int (nI 3), .int (nI a), .int (nI b)] m K := by
  refine g_inI rfl ?_
  refine g_iload_n (pc' := 1) rfl rfl rfl ?_
  refine g_iconst (pc' := 2) (v := 3) rfl rfl (by decide) ?_
  refine g_icmp_ne (pc' := 5) (t := 20) rfl rfl rfl (fun c => absurd c (by decide)) (fun _ => ?_)
  refine g_aload_n (pc' := 6) rfl rfl rfl ?_
  refine g_geti (pc' := 9) rfl rfl (i_8_5 hp) ?_
  refine g_vi (y := sD (stAt m p)) (rfl) ?_
  refine g_bipush (pc' := 11) (v := 99) rfl rfl (by decide) ?_
  refine g_icmp_lt (pc' := 14) (t := 18) rfl rfl rfl (fun c_11 => ?_) (fun c_11 => ?_)
  · refine g_iconst (pc' := 19) (v := 0) rfl rfl (by decide) ?_
    exact g_ireturn rfl rfl (g_eq h (by rw [whyS, if_pos rfl, if_pos c_11]) rfl)
  · refine g_iconst (pc' := 15) (v := 5) rfl rfl (by decide) ?_
    refine g_goto (pc' := 19) rfl rfl ?_
    exact g_ireturn rfl rfl (g_eq h (by rw [whyS, if_pos rfl, if_neg c_11]) rfl)
theorem c_whyNot {p kd a b : Nat} (hp : isS p) (hk : kd < 4) (ha : a < 10) (hb : kd = 0 → b < 10) (h : K (whyS (stAt m p) kd a b) m) : gCi X 58 [.ref p, .int (nI kd), .int (nI a), .int (nI b)] m K := by
  rcases (show kd = 0 ∨ kd = 1 ∨ kd = 2 ∨ kd = 3 by omega) with rfl | rfl | rfl | rfl
  · exact c_whyNot0 hp ha (hb rfl) h
  · exact c_whyNot1 hp ha h
  · exact c_whyNot2 hp ha h
  · exact c_whyNot3 hp h
theorem c_perform {p kd a b : Nat} (hp : isS p) (hk : kd < 4) (ha : a < 10) (hb : kd = 0 → b < 10) (h : ∀ m', Fr p (p + 6) m m' → stAt m' p = (actS (stAt m p) kd a b).1 → K (actS (stAt m p) kd a b).2 m') : gCi X 59 [.ref p, .int (nI kd), .int (nI a), .int (nI b)] m K := by
  refine g_inI rfl ?_
  refine g_iload_n (pc' := 1) rfl rfl rfl ?_
  rcases (show kd = 0 ∨ kd = 1 ∨ kd = 2 ∨ kd = 3 by omega) with rfl | rfl | rfl | rfl
  · refine g_tabI (pc' := 28) rfl (by decide) rfl rfl ?_
    refine g_aload_n (pc' := 29) rfl rfl rfl ?_
    refine g_iload_n (pc' := 30) rfl rfl rfl ?_
    refine g_iload_n (pc' := 31) rfl rfl rfl ?_
    refine g_calli (pc' := 34) rfl rfl rfl rfl (Or.inr (rc_S hp)) ?_
    refine c_strike hp ha (hb rfl) (fun m1 f1 e1 => ?_)
    exact g_ireturn rfl rfl (h m1 f1 e1)
  · refine g_tabI (pc' := 35) rfl (by decide) rfl rfl ?_
    refine g_aload_n (pc' := 36) rfl rfl rfl ?_
    refine g_iload_n (pc' := 37) rfl rfl rfl ?_
    refine g_calli (pc' := 40) rfl rfl rfl rfl (Or.inr (rc_S hp)) ?_
    refine c_bake hp ha (fun m1 f1 e1 => ?_)
    exact g_ireturn rfl rfl (h m1 f1 e1)
  · refine g_tabI (pc' := 41) rfl (by decide) rfl rfl ?_
    refine g_aload_n (pc' := 42) rfl rfl rfl ?_
    refine g_getr (pc' := 45) rfl rfl (f_8_3 hp) ?_
    refine g_iload_n (pc' := 46) rfl rfl rfl ?_
    refine g_iload_n (pc' := 47) rfl rfl rfl ?_
    refine g_iast (pc' := 48) rfl rfl (a_S4 hp) ha rfl ?_
    refine g_bipush (pc' := 50) (v := -6) rfl rfl (by decide) ?_
    exact g_ireturn rfl rfl (h _ (Fr.rf.s (by omega) (by omega)) (st_wO ha))
  · refine g_tabO (pc' := 51) rfl (by decide) rfl ?_
    refine g_aload_n (pc' := 52) rfl rfl rfl ?_
    refine g_callv (pc' := 55) rfl rfl rfl rfl (Or.inr (rc_S hp)) ?_
    refine c_passDay hp (fun m1 f1 e1 => ?_)
    refine g_bipush (pc' := 57) (v := -6) rfl rfl (by decide) ?_
    exact g_ireturn rfl rfl (h m1 f1 e1)
def kindN (d : Nat) : Nat := if d ≤ 3 then 0 else if d = 4 then 1 else if d = 5 then 2 else 3
theorem kindN_lt (d : Nat) : kindN d < 4 := by
  unfold kindN
  split
  · decide
  · split
    · decide
    · split <;> decide
theorem c_kindOfDraw {d : Nat} (hd : d < 8) (h : K (nI (kindN d)) m) : gCi X 65 [.int (nI d)] m K := by
  refine g_inI rfl ?_
  rcases (show d = 0 ∨ d = 1 ∨ d = 2 ∨ d = 3 ∨ d = 4 ∨ d = 5 ∨ d = 6 ∨ d = 7 by omega) with rfl | rfl | rfl | rfl | rfl | rfl | rfl | rfl
  · refine g_iload_n (pc' := 1) rfl rfl rfl ?_
    refine g_iconst (pc' := 2) (v := 3) rfl rfl (by decide) ?_
    refine g_icmp_gt (pc' := 5) (t := 7) rfl rfl rfl (fun c => absurd c (by decide)) (fun _ => ?_)
    refine g_iconst (pc' := 6) (v := 0) rfl rfl (by decide) ?_
    exact g_ireturn rfl rfl (h)
  · refine g_iload_n (pc' := 1) rfl rfl rfl ?_
    refine g_iconst (pc' := 2) (v := 3) rfl rfl (by decide) ?_
    refine g_icmp_gt (pc' := 5) (t := 7) rfl rfl rfl (fun c => absurd c (by decide)) (fun _ => ?_)
    refine g_iconst (pc' := 6) (v := 0) rfl rfl (by decide) ?_
    exact g_ireturn rfl rfl (h)
  · refine g_iload_n (pc' := 1) rfl rfl rfl ?_
    refine g_iconst (pc' := 2) (v := 3) rfl rfl (by decide) ?_
    refine g_icmp_gt (pc' := 5) (t := 7) rfl rfl rfl (fun c => absurd c (by decide)) (fun _ => ?_)
    refine g_iconst (pc' := 6) (v := 0) rfl rfl (by decide) ?_
    exact g_ireturn rfl rfl (h)
  · refine g_iload_n (pc' := 1) rfl rfl rfl ?_
    refine g_iconst (pc' := 2) (v := 3) rfl rfl (by decide) ?_
    refine g_icmp_gt (pc' := 5) (t := 7) rfl rfl rfl (fun c => absurd c (by decide)) (fun _ => ?_)
    refine g_iconst (pc' := 6) (v := 0) rfl rfl (by decide) ?_
    exact g_ireturn rfl rfl (h)
  · refine g_iload_n (pc' := 1) rfl rfl rfl ?_
    refine g_iconst (pc' := 2) (v := 3) rfl rfl (by decide) ?_
    refine g_icmp_gt (pc' := 5) (t := 7) rfl rfl rfl (fun _ => ?_) (fun c => absurd c (by decide))
    refine g_iload_n (pc' := 8) rfl rfl rfl ?_
    refine g_iconst (pc' := 9) (v := 4) rfl rfl (by decide) ?_
    refine g_icmp_ne (pc' := 12) (t := 16) rfl rfl rfl (fun c => absurd c (by decide)) (fun _ => ?_)
    refine g_iconst (pc' := 13) (v := 1) rfl rfl (by decide) ?_
    refine g_goto (pc' := 26) rfl rfl ?_
    exact g_ireturn rfl rfl (h)
  · refine g_iload_n (pc' := 1) rfl rfl rfl ?_
    refine g_iconst (pc' := 2) (v := 3) rfl rfl (by decide) ?_
    refine g_icmp_gt (pc' := 5) (t := 7) rfl rfl rfl (fun _ => ?_) (fun c => absurd c (by decide))
    refine g_iload_n (pc' := 8) rfl rfl rfl ?_
    refine g_iconst (pc' := 9) (v := 4) rfl rfl (by decide) ?_
    refine g_icmp_ne (pc' := 12) (t := 16) rfl rfl rfl (fun _ => ?_) (fun c => absurd c (by decide))
    refine g_iload_n (pc' := 17) rfl rfl rfl ?_
    refine g_iconst (pc' := 18) (v := 5) rfl rfl (by decide) ?_
    refine g_icmp_ne (pc' := 21) (t := 25) rfl rfl rfl (fun c => absurd c (by decide)) (fun _ => ?_)
    refine g_iconst (pc' := 22) (v := 2) rfl rfl (by decide) ?_
    refine g_goto (pc' := 26) rfl rfl ?_
    exact g_ireturn rfl rfl (h)
  · refine g_iload_n (pc' := 1) rfl rfl rfl ?_
    refine g_iconst (pc' := 2) (v := 3) rfl rfl (by decide) ?_
    refine g_icmp_gt (pc' := 5) (t := 7) rfl rfl rfl (fun _ => ?_) (fun c => absurd c (by decide))
    refine g_iload_n (pc' := 8) rfl rfl rfl ?_
    refine g_iconst (pc' := 9) (v := 4) rfl rfl (by decide) ?_
    refine g_icmp_ne (pc' := 12) (t := 16) rfl rfl rfl (fun _ => ?_) (fun c => absurd c (by decide))
    refine g_iload_n (pc' := 17) rfl rfl rfl ?_
    refine g_iconst (pc' := 18) (v := 5) rfl rfl (by decide) ?_
    refine g_icmp_ne (pc' := 21) (t := 25) rfl rfl rfl (fun _ => ?_) (fun c => absurd c (by decide))
    refine g_iconst (pc' := 26) (v := 3) rfl rfl (by decide) ?_
    exact g_ireturn rfl rfl (h)
  · refine g_iload_n (pc' := 1) rfl rfl rfl ?_
    refine g_iconst (pc' := 2) (v := 3) rfl rfl (by decide) ?_
    refine g_icmp_gt (pc' := 5) (t := 7) rfl rfl rfl (fun _ => ?_) (fun c => absurd c (by decide))
    refine g_iload_n (pc' := 8) rfl rfl rfl ?_
    refine g_iconst (pc' := 9) (v := 4) rfl rfl (by decide) ?_
    refine g_icmp_ne (pc' := 12) (t := 16) rfl rfl rfl (fun _ => ?_) (fun c => absurd c (by decide))
    refine g_iload_n (pc' := 17) rfl rfl rfl ?_
    refine g_iconst (pc' := 18) (v := 5) rfl rfl (by decide) ?_
    refine g_icmp_ne (pc' := 21) (t := 25) rfl rfl rfl (fun _ => ?_) (fun c => absurd c (by decide))
    refine g_iconst (pc' := 26) (v := 3) rfl rfl (by decide) ?_
    exact g_ireturn rfl rfl (h)
def yX (x : Nat) : Nat := (75 * x + 74) % 65537
def yB (x : Nat) : Nat := if kindN (x / 10 % 8) = 2 then x / 80 % 4 else x / 80 % 10
def yStep (s : aStr × Nat) : aStr × Nat := (if whyS s.1 (kindN (yX s.2 / 10 % 8)) (yX s.2 % 10) (yB (yX s.2)) = 0 then (actS s.1 (kindN (yX s.2 / 10 % 8)) (yX s.2 % 10) (yB (yX s.2))).1 else s.1, yX s.2)
def yearN (n : Nat) (s : aStr) (x : Nat) : aStr × Nat := fN (fun _ => yStep) n (s, x)
theorem yX_lt (x : Nat) : yX x < 65537 := Nat.mod_lt _ (by decide)
theorem i_rem {a d : Nat} (ha : a < 2 ^ 31) (h0 : 0 < d) (hd : d < 2 ^ 31) : nI a - nI a / nI d * nI d = nI (a % d) := pk_rem ha h0 hd
theorem i_div {a d : Nat} (ha : a < 2 ^ 31) (h0 : 0 < d) (hd : d < 2 ^ 31) : nI a / nI d = nI (a / d) := pk_div ha h0 hd
theorem yX_i {x : Nat} (h : x < 65537) : (75 * nI x + 74) - (75 * nI x + 74) / 65537 * 65537 = nI (yX x) := by
  have e : (75 : Int32) * nI x + 74 = nI (75 * x + 74) := by
    rw [show (75 : Int32) = nI 75 from rfl, pk_mul, show (74 : Int32) = nI 74 from rfl, nI_add]
  rw [e]
  exact i_rem (by omega) (by decide) (by decide)
theorem yB_lt (x : Nat) : yB x < 10 := by
  unfold yB
  split
  · exact Nat.lt_of_lt_of_le (Nat.mod_lt _ (by decide)) (by decide)
  · exact Nat.mod_lt _ (by decide)
theorem c_passByDraws {p n x0 : Nat} {sd : Int32} {K : aMem → Prop} (hp : isS p) (hn : n < 100) (hx0 : x0 < 65537) (hsd : sd = nI x0) (h : ∀ m', Fr p (p + 6) m m' → stAt m' p = (yearN n (stAt m p) x0).1 → K m') : gCv X 64 [.ref p, .int sd, .int (nI n)] m K := by
  refine g_inV rfl ?_
  have loop : ∀ (d i : Nat) (m1 : aMem) (x : Nat) (v5 v6 v7 : Value), i + d = n → x < 65537 → Fr p (p + 6) m m1 → (stAt m1 p, x) = yearN i (stAt m p) x0 → gG X 64 5 [.ref p, .int sd, .int (nI n), .int (nI x), .int (nI i), v5, v6, v7] [] m1 (fun r m' => r = none ∧ K m') := by
    intro d
    induction d with
    | zero =>
      intro i m1 x v5 v6 v7 hd hx hF hs
      have hi : i = n := by omega
      subst hi
      refine g_iload (pc' := 7) rfl rfl rfl ?_
      refine g_iload_n (pc' := 8) rfl rfl rfl ?_
      refine g_icmp_ge (pc' := 11) (t := 94) rfl rfl rfl (fun c_8 => ?_) (fun c_8 => absurd (nI_le (Nat.le_refl i) (by omega)) c_8)
      exact g_return rfl rfl (h m1 hF (by rw [← hs]))
    | succ d ih =>
      intro i m1 x v5 v6 v7 hd hx hF hs
      have hlt : i < n := by omega
      refine g_iload (pc' := 7) rfl rfl rfl ?_
      refine g_iload_n (pc' := 8) rfl rfl rfl ?_
      refine g_icmp_ge (pc' := 11) (t := 94) rfl rfl rfl (fun c_8 => absurd c_8 (nI_ge hlt (by omega))) (fun c_8 => ?_)
      refine g_bipush (pc' := 13) (v := 75) rfl rfl (by decide) ?_
      refine g_iload_n (pc' := 14) rfl rfl rfl ?_
      refine g_imul (pc' := 15) rfl rfl ?_
      refine g_bipush (pc' := 17) (v := 74) rfl rfl (by decide) ?_
      refine g_iadd (pc' := 18) rfl rfl ?_
      refine g_ldc (pc' := 20) (v := 65537) rfl rfl (by decide) ?_
      refine g_irem (pc' := 21) rfl rfl (by decide) ?_
      refine g_vi (y := nI (yX x)) (yX_i hx) ?_
      refine g_istore_n (pc' := 22) rfl rfl rfl ?_
      refine g_iload_n (pc' := 23) rfl rfl rfl ?_
      refine g_bipush (pc' := 25) (v := 10) rfl rfl (by decide) ?_
      refine g_idiv (pc' := 26) rfl rfl (by decide) ?_
      refine g_vi (y := nI (yX x / 10)) (i_div (by have := yX_lt x; omega) (by decide) (by decide)) ?_
      refine g_bipush (pc' := 28) (v := 8) rfl rfl (by decide) ?_
      refine g_irem (pc' := 29) rfl rfl (by decide) ?_
      refine g_vi (y := nI (yX x / 10 % 8)) (i_rem (by have := yX_lt x; omega) (by decide) (by decide)) ?_
      refine g_calli (pc' := 32) rfl rfl rfl rfl (Or.inl rfl) ?_
      refine c_kindOfDraw (Nat.mod_lt _ (by decide)) ?_
      refine g_istore (pc' := 34) rfl rfl rfl ?_
      refine g_iload_n (pc' := 35) rfl rfl rfl ?_
      refine g_bipush (pc' := 37) (v := 80) rfl rfl (by decide) ?_
      refine g_idiv (pc' := 38) rfl rfl (by decide) ?_
      refine g_vi (y := nI (yX x / 80)) (i_div (by have := yX_lt x; omega) (by decide) (by decide)) ?_
      refine g_istore (pc' := 40) rfl rfl rfl ?_
      refine g_iload (pc' := 42) rfl rfl rfl ?_
      refine g_iconst (pc' := 43) (v := 2) rfl rfl (by decide) ?_
      refine g_icmp_ne (pc' := 46) (t := 53) rfl rfl rfl (fun c_43 => ?_) (fun c_43 => ?_)
      · refine g_iload (pc' := 55) rfl rfl rfl ?_
        refine g_bipush (pc' := 57) (v := 10) rfl rfl (by decide) ?_
        refine g_irem (pc' := 58) rfl rfl (by decide) ?_
        refine g_vi (y := nI (yX x / 80 % 10)) (i_rem (by have := yX_lt x; omega) (by decide) (by decide)) ?_
        refine g_vi (y := nI (yB (yX x))) (by unfold yB; rw [if_neg (fun z => c_43 (by rw [z]; rfl))]) ?_
        refine g_istore (pc' := 60) rfl rfl rfl ?_
        refine g_aload_n (pc' := 61) rfl rfl rfl ?_
        refine g_iload (pc' := 63) rfl rfl rfl ?_
        refine g_iload_n (pc' := 64) rfl rfl rfl ?_
        refine g_bipush (pc' := 66) (v := 10) rfl rfl (by decide) ?_
        refine g_irem (pc' := 67) rfl rfl (by decide) ?_
        refine g_vi (y := nI (yX x % 10)) (i_rem (by have := yX_lt x; omega) (by decide) (by decide)) ?_
        refine g_iload (pc' := 69) rfl rfl rfl ?_
        refine g_calli (pc' := 72) rfl rfl rfl rfl (Or.inr (rc_S hp)) ?_
        refine c_whyNot hp (kindN_lt _) (Nat.mod_lt _ (by decide)) (fun z => yB_lt _) ?_
        refine g_if_ne (pc' := 75) (t := 88) rfl rfl rfl (fun c_72 => ?_) (fun c_72 => ?_)
        · refine g_iinc (pc' := 91) (v := nI (i + 1)) rfl rfl rfl (nI_1 i) rfl ?_
          refine g_goto (pc' := 5) rfl rfl ?_
          exact ih (i + 1) _ _ _ _ _ (by omega) (yX_lt x) hF (by unfold yearN fN; rw [show fN (fun _ => yStep) i (stAt m p, x0) = yearN i (stAt m p) x0 from rfl, ← hs]; unfold yStep; rw [if_neg c_72])
        · refine g_aload_n (pc' := 76) rfl rfl rfl ?_
          refine g_iload (pc' := 78) rfl rfl rfl ?_
          refine g_iload_n (pc' := 79) rfl rfl rfl ?_
          refine g_bipush (pc' := 81) (v := 10) rfl rfl (by decide) ?_
          refine g_irem (pc' := 82) rfl rfl (by decide) ?_
          refine g_vi (y := nI (yX x % 10)) (i_rem (by have := yX_lt x; omega) (by decide) (by decide)) ?_
          refine g_iload (pc' := 84) rfl rfl rfl ?_
          refine g_calli (pc' := 87) rfl rfl rfl rfl (Or.inr (rc_S hp)) ?_
          refine c_perform hp (kindN_lt _) (Nat.mod_lt _ (by decide)) (fun z => yB_lt _) (fun m2 f2 e2 => ?_)
          refine g_pop (pc' := 88) rfl rfl rfl ?_
          refine g_iinc (pc' := 91) (v := nI (i + 1)) rfl rfl rfl (nI_1 i) rfl ?_
          refine g_goto (pc' := 5) rfl rfl ?_
          exact ih (i + 1) _ _ _ _ _ (by omega) (yX_lt x) (hF.tr f2) (by unfold yearN fN; rw [show fN (fun _ => yStep) i (stAt m p, x0) = yearN i (stAt m p) x0 from rfl, ← hs]; unfold yStep; rw [if_pos c_72, e2])
      · refine g_iload (pc' := 48) rfl rfl rfl ?_
        refine g_iconst (pc' := 49) (v := 4) rfl rfl (by decide) ?_
        refine g_irem (pc' := 50) rfl rfl (by decide) ?_
        refine g_vi (y := nI (yX x / 80 % 4)) (i_rem (by have := yX_lt x; omega) (by decide) (by decide)) ?_
        refine g_goto (pc' := 58) rfl rfl ?_
        refine g_vi (y := nI (yB (yX x))) (by unfold yB; rw [if_pos ((nI_eq (by have := kindN_lt (yX x / 10 % 8); omega) (by decide)).mp c_43)]) ?_
        refine g_istore (pc' := 60) rfl rfl rfl ?_
        refine g_aload_n (pc' := 61) rfl rfl rfl ?_
        refine g_iload (pc' := 63) rfl rfl rfl ?_
        refine g_iload_n (pc' := 64) rfl rfl rfl ?_
        refine g_bipush (pc' := 66) (v := 10) rfl rfl (by decide) ?_
        refine g_irem (pc' := 67) rfl rfl (by decide) ?_
        refine g_vi (y := nI (yX x % 10)) (i_rem (by have := yX_lt x; omega) (by decide) (by decide)) ?_
        refine g_iload (pc' := 69) rfl rfl rfl ?_
        refine g_calli (pc' := 72) rfl rfl rfl rfl (Or.inr (rc_S hp)) ?_
        refine c_whyNot hp (kindN_lt _) (Nat.mod_lt _ (by decide)) (fun z => yB_lt _) ?_
        refine g_if_ne (pc' := 75) (t := 88) rfl rfl rfl (fun c_72 => ?_) (fun c_72 => ?_)
        · refine g_iinc (pc' := 91) (v := nI (i + 1)) rfl rfl rfl (nI_1 i) rfl ?_
          refine g_goto (pc' := 5) rfl rfl ?_
          exact ih (i + 1) _ _ _ _ _ (by omega) (yX_lt x) hF (by unfold yearN fN; rw [show fN (fun _ => yStep) i (stAt m p, x0) = yearN i (stAt m p) x0 from rfl, ← hs]; unfold yStep; rw [if_neg c_72])
        · refine g_aload_n (pc' := 76) rfl rfl rfl ?_
          refine g_iload (pc' := 78) rfl rfl rfl ?_
          refine g_iload_n (pc' := 79) rfl rfl rfl ?_
          refine g_bipush (pc' := 81) (v := 10) rfl rfl (by decide) ?_
          refine g_irem (pc' := 82) rfl rfl (by decide) ?_
          refine g_vi (y := nI (yX x % 10)) (i_rem (by have := yX_lt x; omega) (by decide) (by decide)) ?_
          refine g_iload (pc' := 84) rfl rfl rfl ?_
          refine g_calli (pc' := 87) rfl rfl rfl rfl (Or.inr (rc_S hp)) ?_
          refine c_perform hp (kindN_lt _) (Nat.mod_lt _ (by decide)) (fun z => yB_lt _) (fun m2 f2 e2 => ?_)
          refine g_pop (pc' := 88) rfl rfl rfl ?_
          refine g_iinc (pc' := 91) (v := nI (i + 1)) rfl rfl rfl (nI_1 i) rfl ?_
          refine g_goto (pc' := 5) rfl rfl ?_
          exact ih (i + 1) _ _ _ _ _ (by omega) (yX_lt x) (hF.tr f2) (by unfold yearN fN; rw [show fN (fun _ => yStep) i (stAt m p, x0) = yearN i (stAt m p) x0 from rfl, ← hs]; unfold yStep; rw [if_pos c_72, e2])
  subst hsd
  refine g_iload_n (pc' := 1) rfl rfl rfl ?_
  refine g_istore_n (pc' := 2) rfl rfl rfl ?_
  refine g_iconst (pc' := 3) (v := 0) rfl rfl (by decide) ?_
  refine g_istore (pc' := 5) rfl rfl rfl ?_
  exact loop n 0 m x0 _ _ _ (by omega) hx0 Fr.rf rfl
end C3
