/-! THE SMALL MACHINE IS SOUND, 1: what holds between its state and the machine's; plain instructions -/
def am_ad (b base k : Nat) : Nat := match k with
  | 0 => b
  | i + 1 => base + i
def am_up (b base : Nat) (v : Value) : Value := match v with
  | .ref k => .ref (am_ad b base k)
  | v => v
theorem am_up_cat (b base : Nat) (v : Value) : (am_up b base v).category = v.category := by cases v <;> rfl
def am_N (ci : Nat) : Nat := match am_cl[ci]? with
  | some q => q.2.2
  | none => 0
def am_T (ci : Nat) : Nat → FieldType := match am_ct[ci]? with
  | some t => t
  | none => fun _ => .int
def am_fv (b base : Nat) (t : FieldType) (r : Option Nat) (x : Int32) (y : Int64) : Value := match am_fk t with
  | 0 => .int x
  | 3 => .int x
  | 1 => .long y
  | _ => match r with
    | none => .null
    | some k => .ref (am_ad b base k)
def am_ce (cI cZ : ClassId) (b base : Nat) (c : aSh) (f : Nat → Int32) (g : Nat → Int64) : va_E := match c with
  | .inl (z, n) => .inl ((if z = true then cZ else cI), n, .inl f)
  | .inr (ci, rs) => .inr (ci, (List.range (am_N ci)).map fun k => am_fv b base (am_T ci k) (rs.getD k none) (f k) (g k))
def am_ws (cI cZ : ClassId) (b base : Nat) (S : aSt) : va_W := S.1.mapIdx fun i c => (base + i, am_ce cI cZ b base c (S.2.1 (i + 1)) (S.2.2 (i + 1)))
def am_cz (c : aSh) : Nat := match c with
  | .inl (_, n) => n
  | .inr (ci, _) => am_N ci
def am_sz (sh : List aSh) : Nat := (sh.map am_cz).sum
def am_nw : List Cond := lw_tbl.filter fun w => match w with
  | .methodLinkNest _ _ _ _ => true
  | _ => false
def am_Cx (p : Program) (s : State) (m : MethodId) (args : Array Value) (meth : Method) (c : Code) (R : Room) (D : va_G) (cI cZ : ClassId) (b base : Nat) (X : aX) (j : Nat) : Prop :=
  p.tables.exec = Jvm.exec ∧ c.code = am_c j ∧ c.maxLocals = am_L j ∧ s.vm.findClass (am_y j).cls = some m.cls ∧ (∀ w ∈ am_tb, w.before args s = true) ∧ (∀ w ∈ am_nw, va_Nw w s) ∧ va_K D am_cl [(cI, .int), (cZ, .boolean)] s ∧ va_X b X.1 X.2 s s.heap ∧ b < base ∧ base ≤ s.heap.size ∧ (j = 0 ∨ meth.name = (am_y j).name) ∧ R.frames = am_fr j ∧ R.locals = am_lo j
def am_Lr (b base n : Nat) (ls : List Value) (LS : Array Slot) : Prop := ls.length = n ∧ LS.size = n ∧ lv_wf LS ∧ ∀ (i : Nat) (v : Value), ls[i]? = some v → v ≠ .null → LS[i]? = some (.val (am_up b base v))
def am_Rl (D : va_G) (cI cZ : ClassId) (b base : Nat) (s : State) (S : aSt) (H : Heap) (locs : List Loc) : Prop := va_P D am_cl (am_ws cI cZ b base S) H ∧ H.size = base + S.1.length ∧ va_S (fun q => base ≤ q) s.heap H locs
def am_G (p : Program) (l : Launch) (e : Env) (R : Room) (s : State) (m : MethodId) (args : Array Value) (below : List Frame) (meth : Method) (c : Code) (D : va_G) (cI cZ : ClassId) (b base j n0 z0 : Nat) (Q : State → Prop) (pc : Nat) (ls st : List Value) (S : aSt) : Prop :=
  ∀ (LS : Array Slot) (H : Heap) (locs : List Loc) (cells slots : Nat), am_Lr b base (am_L j) ls LS → am_Rl D cI cZ b base s S H locs → cells + n0 = S.1.length → slots + z0 = am_sz S.1 → W p l e R s m args below meth c H locs cells slots Q (F0 m pc LS (st.map (am_up b base)))
noncomputable def am_cwd (j : Nat) (I : aI) : Bool := (match I with
  | (i, _, a, b, w, k) => match i with
    | .getfield x => (match am_cl[a]? with
      | some q => decide (b < q.2.2) && am_wd w (.fieldLink (am_y j).cls x (q.2.1 b).1 (q.2.1 b).2.1 (q.2.1 b).2.2.1)
      | none => false)
    | .putfield x => (match am_cl[a]? with
      | some q => decide (b < q.2.2) && am_wd w (.fieldLink (am_y j).cls x (q.2.1 b).1 (q.2.1 b).2.1 (q.2.1 b).2.2.1)
      | none => false)
    | .invokestatic x => if b = 1 then am_wn w (.methodLinkNest (am_y j).cls x (am_y a) "StringNuts") else am_wd w (.methodLink (am_y j).cls x (am_y a))
    | .invokevirtual x => if b = 1 then am_wn w (.methodLinkNest (am_y j).cls x (am_y a) "StringNuts") else am_wd w (.methodLink (am_y j).cls x (am_y a))
    | .invokespecial x => if b = 2 then am_wd w (.methodLink (am_y j).cls x objectInit) else if b = 1 then am_wn w (.methodLinkNest (am_y j).cls x (am_y a) "StringNuts") else am_wd w (.methodLink (am_y j).cls x (am_y a))
    | .new x => (match am_cl[a]? with
      | some q => am_wd w (.classLink (am_y j).cls x q.1)
      | none => false)
    | .ldc x => am_wd w (.constant (am_y j).cls x (Int32.ofInt k))
    | .ldc_w x => am_wd w (.constant (am_y j).cls x (Int32.ofInt k))
    | .ldc2_w x => am_wd w (.constantLong (am_y j).cls x (Int64.ofInt k))
    | _ => true)
section AMS
variable {p : Program} {l : Launch} {e : Env} {R : Room} {s : State} {m : MethodId} {args : Array Value} {below : List Frame} {meth : Method} {c : Code} {Q : State → Prop} {D : va_G} {cI cZ : ClassId} {b base j n0 z0 : Nat} {X : aX} {pc pc' : Nat} {ls st ls' st' : List Value} {S S' : aSt} {I : aI}
theorem am_hd (h : am_in j pc = some I) : decode (am_c j) pc = .ok (I.1, am_ln I.1 I.2.1) ∧ I.2.1 = am_ln I.1 I.2.1 := by
  have h1 := am_ok h
  unfold am_ckI at h1
  rw [Bool.and_eq_true, Bool.and_eq_true] at h1
  have h2 := of_decide_eq_true h1.1.2
  have h3 := of_decide_eq_true h1.1.1
  exact ⟨by rw [← h2]; exact h3, h2⟩
theorem am_lr_get {n : Nat} {LS : Array Slot} (hl : am_Lr b base n ls LS) {i : Nat} {v : Value} (h : ls[i]? = some v) (hv : v ≠ .null) : LS[i]? = some (.val (am_up b base v)) := hl.2.2.2 i v h hv
def am_lvs (b base : Nat) (ls : List Value) : List (Nat × Value) := (List.range ls.length).filterMap fun i => match ls[i]? with
  | some v => if v = .null then none else some (i, am_up b base v)
  | none => none
theorem am_lvs_mem {i : Nat} {v : Value} (h : ls[i]? = some v) (hv : v ≠ .null) : (i, am_up b base v) ∈ am_lvs b base ls := by
  refine List.mem_filterMap.mpr ⟨i, List.mem_range.mpr (List.getElem?_eq_some_iff.mp h).1, ?_⟩
  simp [h, hv]
theorem am_lr_has {n : Nat} {LS : Array Slot} (hl : am_Lr b base n ls LS) : lv_has LS n (am_lvs b base ls) := by
  refine ⟨hl.2.1, hl.2.2.1, fun q hq => ?_⟩
  obtain ⟨i, -, hi⟩ := List.mem_filterMap.mp hq
  cases hv : ls[i]? with
  | none => rw [hv] at hi; cases hi
  | some v =>
    rw [hv] at hi
    by_cases hn : v = .null
    · simp [hn] at hi
    · simp [hn] at hi
      subst hi
      exact hl.2.2.2 i v hv hn
theorem am_s1_lt {i : Nat} {v : Value} (h : am_s1 ls i v = some ls') : i < ls.length ∧ am_pre ls i = true ∧ ls' = ls.set i v := by
  unfold am_s1 at h
  split at h
  · next hc => cases h; exact ⟨hc.1, hc.2, rfl⟩
  · cases h
theorem am_s2_lt {i : Nat} {v : Value} (h : am_s2 ls i v = some ls') : i + 1 < ls.length ∧ am_pre ls i = true ∧ ls' = (ls.set i v).set (i + 1) .null := by
  unfold am_s2 at h
  split at h
  · next hc => cases h; exact ⟨hc.1, hc.2, rfl⟩
  · cases h
theorem am_pre_no {i k : Nat} {v : Value} (h : am_pre ls i = true) (hk : k + 1 = i) (hv : ls[k]? = some v) : ¬ v.category = 2 := by
  subst hk
  unfold am_pre at h
  simp [hv] at h
  exact h
theorem am_lr_s1 {n i : Nat} {v : Value} {LS LS' : Array Slot} {lv' : List (Nat × Value)} (hl : am_Lr b base n ls LS) (h : am_s1 ls i v = some ls') (e : (i, am_up b base v) :: (am_lvs b base ls).filter (fun q => !(q.1 == i) && !(q.1 + 1 == i && q.2.category == 2)) = lv') (h' : lv_has LS' n lv') : am_Lr b base n ls' LS' := by
  obtain ⟨h1, h2, rfl⟩ := am_s1_lt h
  subst e
  refine ⟨by rw [List.length_set]; exact hl.1, h'.1, h'.2.1, fun k w hk hw => ?_⟩
  by_cases hki : k = i
  · subst hki
    rw [List.getElem?_set_self h1] at hk
    cases hk
    exact h'.2.2 _ List.mem_cons_self
  · rw [List.getElem?_set_ne (Ne.symm hki)] at hk
    refine h'.2.2 (k, am_up b base w) (List.mem_cons_of_mem _ (List.mem_filter.mpr ⟨am_lvs_mem hk hw, ?_⟩))
    by_cases hq : k + 1 = i
    · have := am_pre_no h2 hq hk
      simp [hki, am_up_cat, this]
    · simp [hki, hq]
theorem am_lr_s2 {n i : Nat} {v : Value} {LS LS' : Array Slot} {lv' : List (Nat × Value)} (hl : am_Lr b base n ls LS) (h : am_s2 ls i v = some ls') (e : (i, am_up b base v) :: (am_lvs b base ls).filter (fun q => !(q.1 == i) && (!(q.1 == i + 1) && !(q.1 + 1 == i && q.2.category == 2))) = lv') (h' : lv_has LS' n lv') : am_Lr b base n ls' LS' := by
  obtain ⟨h1, h2, rfl⟩ := am_s2_lt h
  subst e
  refine ⟨by rw [List.length_set, List.length_set]; exact hl.1, h'.1, h'.2.1, fun k w hk hw => ?_⟩
  by_cases hk1 : k = i + 1
  · subst hk1
    rw [List.getElem?_set_self (by rw [List.length_set]; exact h1)] at hk
    cases hk
    exact absurd rfl hw
  · rw [List.getElem?_set_ne (Ne.symm hk1)] at hk
    by_cases hki : k = i
    · subst hki
      rw [List.getElem?_set_self (by omega)] at hk
      cases hk
      exact h'.2.2 _ List.mem_cons_self
    · rw [List.getElem?_set_ne (Ne.symm hki)] at hk
      refine h'.2.2 (k, am_up b base w) (List.mem_cons_of_mem _ (List.mem_filter.mpr ⟨am_lvs_mem hk hw, ?_⟩))
      by_cases hq : k + 1 = i
      · have := am_pre_no h2 hq hk
        simp [hki, hk1, am_up_cat, this]
      · simp [hki, hk1, hq]
theorem am_word (hI : am_in j pc = some I) : am_ckI j pc I = true := am_ok hI
theorem am_ckW (hI : am_in j pc = some I) : am_cwd j I = true := by
  have h1 := am_ok hI
  unfold am_ckI at h1
  rw [Bool.and_eq_true] at h1
  exact h1.2
theorem am_okA (C : am_Cx p s m args meth c R D cI cZ b base X j) (hI : am_in j pc = some I) (h : am_sA I.1 I.2.2.2.2.2 pc I.2.1 ls st S = some (pc', ls', st', S')) (kk : am_G p l e R s m args below meth c D cI cZ b base j n0 z0 Q pc' ls' st' S') : am_G p l e R s m args below meth c D cI cZ b base j n0 z0 Q pc ls st S := by
  obtain ⟨i, len, ra, rb, rw, rk⟩ := I
  have hd := am_hd hI
  have hw := am_ckW hI
  obtain ⟨hx, hb, hml, hown, hts, -⟩ := C
  dsimp only at h hd hw
  obtain ⟨hd, hn⟩ := hd
  unfold am_sA at h
  split at h
  · cases h; simp only [am_ln] at hn; subst hn
    exact fun LS H locs cells slots hl hr hc hz => lv_iconst hx hb hd rfl (kk LS H locs cells slots hl hr hc hz)
  · cases h; simp only [am_ln] at hn; subst hn
    exact fun LS H locs cells slots hl hr hc hz => lv_bipush hx hb hd rfl (kk LS H locs cells slots hl hr hc hz)
  · cases h; simp only [am_ln] at hn; subst hn
    exact fun LS H locs cells slots hl hr hc hz => lv_sipush hx hb hd rfl (kk LS H locs cells slots hl hr hc hz)
  · cases h; simp only [am_ln] at hn; subst hn
    exact fun LS H locs cells slots hl hr hc hz => lv_lconst hx hb hd rfl (kk LS H locs cells slots hl hr hc hz)
  · cases h; simp only [am_ln] at hn; subst hn
    exact fun LS H locs cells slots hl hr hc hz => lv_ldc hx hb hown (hts _ (am_wd_mem hw)) hd (kk LS H locs cells slots hl hr hc hz)
  · cases h; simp only [am_ln] at hn; subst hn
    exact fun LS H locs cells slots hl hr hc hz => lv_ldcw hx hb hown (hts _ (am_wd_mem hw)) hd (kk LS H locs cells slots hl hr hc hz)
  · cases h; simp only [am_ln] at hn; subst hn
    exact fun LS H locs cells slots hl hr hc hz => lv_ldc2 hx hb hown (hts _ (am_wd_mem hw)) hd (kk LS H locs cells slots hl hr hc hz)
  · split at h
    · next x hv => cases h; simp only [am_ln] at hn; subst hn; exact fun LS H locs cells slots hl hr hc hz => lv_iload hx hb hd (am_lr_get hl hv (fun h => by cases h)) (kk LS H locs cells slots hl hr hc hz)
    · cases h
  · split at h
    · next x hv => cases h; simp only [am_ln] at hn; subst hn; exact fun LS H locs cells slots hl hr hc hz => lv_iload_n hx hb hd rfl (am_lr_get hl hv (fun h => by cases h)) (kk LS H locs cells slots hl hr hc hz)
    · cases h
  · split at h
    · next x hv => cases h; simp only [am_ln] at hn; subst hn; exact fun LS H locs cells slots hl hr hc hz => lv_lload hx hb hd (am_lr_get hl hv (fun h => by cases h)) (kk LS H locs cells slots hl hr hc hz)
    · cases h
  · split at h
    · next x hv => cases h; simp only [am_ln] at hn; subst hn; exact fun LS H locs cells slots hl hr hc hz => lv_lload_n hx hb hd rfl (am_lr_get hl hv (fun h => by cases h)) (kk LS H locs cells slots hl hr hc hz)
    · cases h
  · split at h
    · next x hv => cases h; simp only [am_ln] at hn; subst hn; exact fun LS H locs cells slots hl hr hc hz => lv_aload hx hb hd (am_lr_get hl hv (fun h => by cases h)) (kk LS H locs cells slots hl hr hc hz)
    · cases h
  · split at h
    · next x hv => cases h; simp only [am_ln] at hn; subst hn; exact fun LS H locs cells slots hl hr hc hz => lv_aload_n hx hb hd rfl (am_lr_get hl hv (fun h => by cases h)) (kk LS H locs cells slots hl hr hc hz)
    · cases h
  · cases h
theorem am_okB (C : am_Cx p s m args meth c R D cI cZ b base X j) (hI : am_in j pc = some I) (h : am_sB I.1 pc I.2.1 ls st S = some (pc', ls', st', S')) (kk : am_G p l e R s m args below meth c D cI cZ b base j n0 z0 Q pc' ls' st' S') : am_G p l e R s m args below meth c D cI cZ b base j n0 z0 Q pc ls st S := by
  obtain ⟨i, len, ra, rb, rw, rk⟩ := I
  have hd := am_hd hI
  obtain ⟨hx, hb, hml, hown, hts, -⟩ := C
  dsimp only at h hd
  obtain ⟨hd, hn⟩ := hd
  unfold am_sB at h
  split at h
  · split at h
    · obtain ⟨l2, hs, he⟩ := Option.map_eq_some_iff.mp h
      cases he; simp only [am_ln] at hn; subst hn
      exact fun LS H locs cells slots hl hr hc hz => lv_istore hx hb hd (am_lr_has hl) (by rw [← hl.1]; exact (am_s1_lt hs).1) rfl (fun LS' h' => kk LS' H locs cells slots (am_lr_s1 hl hs rfl h') hr hc hz)
    · cases h
  · split at h
    · obtain ⟨l2, hs, he⟩ := Option.map_eq_some_iff.mp h
      cases he; simp only [am_ln] at hn; subst hn
      exact fun LS H locs cells slots hl hr hc hz => lv_istore_n hx hb hd rfl (am_lr_has hl) (by rw [← hl.1]; exact (am_s1_lt hs).1) rfl (fun LS' h' => kk LS' H locs cells slots (am_lr_s1 hl hs rfl h') hr hc hz)
    · cases h
  · split at h
    · obtain ⟨l2, hs, he⟩ := Option.map_eq_some_iff.mp h
      cases he; simp only [am_ln] at hn; subst hn
      exact fun LS H locs cells slots hl hr hc hz => lv_astore_n hx hb hd rfl (am_lr_has hl) (by rw [← hl.1]; exact (am_s1_lt hs).1) rfl (fun LS' h' => kk LS' H locs cells slots (am_lr_s1 hl hs rfl h') hr hc hz)
    · cases h
  · split at h
    · obtain ⟨l2, hs, he⟩ := Option.map_eq_some_iff.mp h
      cases he; simp only [am_ln] at hn; subst hn
      exact fun LS H locs cells slots hl hr hc hz => lv_lstore hx hb hd (am_lr_has hl) (by rw [← hl.1]; exact (am_s2_lt hs).1) rfl (fun LS' h' => kk LS' H locs cells slots (am_lr_s2 hl hs rfl h') hr hc hz)
    · cases h
  · split at h
    · obtain ⟨l2, hs, he⟩ := Option.map_eq_some_iff.mp h
      cases he; simp only [am_ln] at hn; subst hn
      exact fun LS H locs cells slots hl hr hc hz => lv_lstore_n hx hb hd rfl (am_lr_has hl) (by rw [← hl.1]; exact (am_s2_lt hs).1) rfl (fun LS' h' => kk LS' H locs cells slots (am_lr_s2 hl hs rfl h') hr hc hz)
    · cases h
  · split at h
    · next x hv =>
      obtain ⟨l2, hs, he⟩ := Option.map_eq_some_iff.mp h
      cases he; simp only [am_ln] at hn; subst hn
      intro LS H locs cells slots hl hr hc hz
      obtain ⟨k, hk⟩ := List.getElem?_of_mem (am_lvs_mem (b := b) (base := base) hv (fun h => by cases h))
      exact lv_iinc hx hb hd (am_lr_has hl) hk rfl (by rw [← hl.1]; exact (am_s1_lt hs).1) rfl (fun LS' h' => kk LS' H locs cells slots (am_lr_s1 hl hs rfl h') hr hc hz)
    · cases h
  · cases h
theorem am_okC (C : am_Cx p s m args meth c R D cI cZ b base X j) (hI : am_in j pc = some I) (h : am_sC I.1 pc I.2.1 ls st S = some (pc', ls', st', S')) (kk : am_G p l e R s m args below meth c D cI cZ b base j n0 z0 Q pc' ls' st' S') : am_G p l e R s m args below meth c D cI cZ b base j n0 z0 Q pc ls st S := by
  obtain ⟨i, len, ra, rb, rw, rk⟩ := I
  have hd := am_hd hI
  obtain ⟨hx, hb, hml, hown, hts, -⟩ := C
  dsimp only at h hd
  obtain ⟨hd, hn⟩ := hd
  unfold am_sC at h
  split at h
  · unfold am_i2 at h
    split at h
    · cases h; simp only [am_ln] at hn; subst hn
      exact fun LS H locs cells slots hl hr hc hz => lv_iadd hx hb hd (kk LS H locs cells slots hl hr hc hz)
    · cases h
  · unfold am_i2 at h
    split at h
    · cases h; simp only [am_ln] at hn; subst hn
      exact fun LS H locs cells slots hl hr hc hz => lv_isub hx hb hd (kk LS H locs cells slots hl hr hc hz)
    · cases h
  · unfold am_i2 at h
    split at h
    · cases h; simp only [am_ln] at hn; subst hn
      exact fun LS H locs cells slots hl hr hc hz => lv_imul hx hb hd (kk LS H locs cells slots hl hr hc hz)
    · cases h
  · unfold am_i2 at h
    split at h
    · cases h; simp only [am_ln] at hn; subst hn
      exact fun LS H locs cells slots hl hr hc hz => lv_iand hx hb hd (kk LS H locs cells slots hl hr hc hz)
    · cases h
  · unfold am_i2 at h
    split at h
    · cases h; simp only [am_ln] at hn; subst hn
      exact fun LS H locs cells slots hl hr hc hz => lv_ior hx hb hd (kk LS H locs cells slots hl hr hc hz)
    · cases h
  · unfold am_i2 at h
    split at h
    · cases h; simp only [am_ln] at hn; subst hn
      exact fun LS H locs cells slots hl hr hc hz => lv_ixor hx hb hd (kk LS H locs cells slots hl hr hc hz)
    · cases h
  · unfold am_i2 at h
    split at h
    · cases h; simp only [am_ln] at hn; subst hn
      exact fun LS H locs cells slots hl hr hc hz => lv_ishl hx hb hd (kk LS H locs cells slots hl hr hc hz)
    · cases h
  · unfold am_i2 at h
    split at h
    · cases h; simp only [am_ln] at hn; subst hn
      exact fun LS H locs cells slots hl hr hc hz => lv_ishr hx hb hd (kk LS H locs cells slots hl hr hc hz)
    · cases h
  · unfold am_i2 at h
    split at h
    · cases h; simp only [am_ln] at hn; subst hn
      exact fun LS H locs cells slots hl hr hc hz => lv_iushr hx hb hd rfl (kk LS H locs cells slots hl hr hc hz)
    · cases h
  · split at h
    · split at h
      · cases h
      · next hy => cases h; simp only [am_ln] at hn; subst hn; exact fun LS H locs cells slots hl hr hc hz => lv_idiv hx hb hd hy (kk LS H locs cells slots hl hr hc hz)
    · cases h
  · split at h
    · split at h
      · cases h
      · next hy => cases h; simp only [am_ln] at hn; subst hn; exact fun LS H locs cells slots hl hr hc hz => lv_irem hx hb hd hy (kk LS H locs cells slots hl hr hc hz)
    · cases h
  · cases h
theorem am_okD (C : am_Cx p s m args meth c R D cI cZ b base X j) (hI : am_in j pc = some I) (h : am_sD I.1 pc I.2.1 ls st S = some (pc', ls', st', S')) (kk : am_G p l e R s m args below meth c D cI cZ b base j n0 z0 Q pc' ls' st' S') : am_G p l e R s m args below meth c D cI cZ b base j n0 z0 Q pc ls st S := by
  obtain ⟨i, len, ra, rb, rw, rk⟩ := I
  have hd := am_hd hI
  obtain ⟨hx, hb, hml, hown, hts, -⟩ := C
  dsimp only at h hd
  obtain ⟨hd, hn⟩ := hd
  unfold am_sD at h
  split at h
  · unfold am_l2 at h
    split at h
    · cases h; simp only [am_ln] at hn; subst hn
      exact fun LS H locs cells slots hl hr hc hz => lv_ladd hx hb hd (kk LS H locs cells slots hl hr hc hz)
    · cases h
  · unfold am_l2 at h
    split at h
    · cases h; simp only [am_ln] at hn; subst hn
      exact fun LS H locs cells slots hl hr hc hz => lv_lsub hx hb hd (kk LS H locs cells slots hl hr hc hz)
    · cases h
  · unfold am_l2 at h
    split at h
    · cases h; simp only [am_ln] at hn; subst hn
      exact fun LS H locs cells slots hl hr hc hz => lv_lmul hx hb hd (kk LS H locs cells slots hl hr hc hz)
    · cases h
  · unfold am_l2 at h
    split at h
    · cases h; simp only [am_ln] at hn; subst hn
      exact fun LS H locs cells slots hl hr hc hz => lv_land hx hb hd (kk LS H locs cells slots hl hr hc hz)
    · cases h
  · unfold am_l2 at h
    split at h
    · cases h; simp only [am_ln] at hn; subst hn
      exact fun LS H locs cells slots hl hr hc hz => lv_lor hx hb hd (kk LS H locs cells slots hl hr hc hz)
    · cases h
  · split at h
    · split at h
      · cases h
      · next hy => cases h; simp only [am_ln] at hn; subst hn; exact fun LS H locs cells slots hl hr hc hz => lv_ldiv hx hb hd hy (kk LS H locs cells slots hl hr hc hz)
    · cases h
  · split at h
    · split at h
      · cases h
      · next hy => cases h; simp only [am_ln] at hn; subst hn; exact fun LS H locs cells slots hl hr hc hz => lv_lrem hx hb hd hy (kk LS H locs cells slots hl hr hc hz)
    · cases h
  · split at h
    · cases h; simp only [am_ln] at hn; subst hn
      exact fun LS H locs cells slots hl hr hc hz => W.lcmp hx hb hd (kk LS H locs cells slots hl hr hc hz)
    · cases h
  · split at h
    · cases h; simp only [am_ln] at hn; subst hn
      exact fun LS H locs cells slots hl hr hc hz => lv_lshl hx hb hd rfl (kk LS H locs cells slots hl hr hc hz)
    · cases h
  · split at h
    · cases h; simp only [am_ln] at hn; subst hn
      exact fun LS H locs cells slots hl hr hc hz => lv_lshr hx hb hd rfl (kk LS H locs cells slots hl hr hc hz)
    · cases h
  · cases h
theorem am_okE (C : am_Cx p s m args meth c R D cI cZ b base X j) (hI : am_in j pc = some I) (h : am_sE I.1 pc I.2.1 ls st S = some (pc', ls', st', S')) (kk : am_G p l e R s m args below meth c D cI cZ b base j n0 z0 Q pc' ls' st' S') : am_G p l e R s m args below meth c D cI cZ b base j n0 z0 Q pc ls st S := by
  obtain ⟨i, len, ra, rb, rw, rk⟩ := I
  have hd := am_hd hI
  obtain ⟨hx, hb, hml, hown, hts, -⟩ := C
  dsimp only at h hd
  obtain ⟨hd, hn⟩ := hd
  unfold am_sE at h
  split at h
  · split at h
    · cases h; simp only [am_ln] at hn; subst hn
      exact fun LS H locs cells slots hl hr hc hz => lv_i2l hx hb hd rfl (kk LS H locs cells slots hl hr hc hz)
    · cases h
  · split at h
    · cases h; simp only [am_ln] at hn; subst hn
      exact fun LS H locs cells slots hl hr hc hz => lv_l2i hx hb hd rfl (kk LS H locs cells slots hl hr hc hz)
    · cases h
  · split at h
    · split at h
      · next hv => cases h; simp only [am_ln] at hn; subst hn; exact fun LS H locs cells slots hl hr hc hz => lv_dup hx hb hd ((am_up_cat _ _ _).trans hv) (kk LS H locs cells slots hl hr hc hz)
      · cases h
    · cases h
  · split at h
    · split at h
      · next hv => cases h; simp only [am_ln] at hn; subst hn; exact fun LS H locs cells slots hl hr hc hz => lv_pop hx hb hd ((am_up_cat _ _ _).trans hv) (kk LS H locs cells slots hl hr hc hz)
      · cases h
    · cases h
  · split at h
    · split at h
      · next hv => cases h; simp only [am_ln] at hn; subst hn; exact fun LS H locs cells slots hl hr hc hz => lv_dup2_11 hx hb hd ((am_up_cat _ _ _).trans hv.1) ((am_up_cat _ _ _).trans hv.2) (kk LS H locs cells slots hl hr hc hz)
      · cases h
    · cases h
  · cases h
theorem am_tg_ok {o : Int} {t : Nat} (h : am_tg pc o = some t) : (pc : Int) + o = (t : Int) := by
  unfold am_tg at h
  split at h
  · next hp => cases h; omega
  · cases h
theorem am_j_ok {o : Int} (h : am_j (am_tg pc o) ls st S = some (pc', ls', st', S')) : (pc : Int) + o = (pc' : Int) ∧ ls' = ls ∧ st' = st ∧ S' = S := by
  unfold am_j at h
  obtain ⟨t, ht, he⟩ := Option.map_eq_some_iff.mp h
  cases he
  exact ⟨am_tg_ok ht, rfl, rfl, rfl⟩
theorem am_okF (C : am_Cx p s m args meth c R D cI cZ b base X j) (hI : am_in j pc = some I) (h : am_sF I.1 pc I.2.1 ls st S = some (pc', ls', st', S')) (kk : am_G p l e R s m args below meth c D cI cZ b base j n0 z0 Q pc' ls' st' S') : am_G p l e R s m args below meth c D cI cZ b base j n0 z0 Q pc ls st S := by
  obtain ⟨i, len, ra, rb, rw, rk⟩ := I
  have hd := am_hd hI
  obtain ⟨hx, hb, hml, hown, hts, -⟩ := C
  dsimp only at h hd
  obtain ⟨hd, hn⟩ := hd
  unfold am_sF at h
  split at h
  · obtain ⟨ht, rfl, rfl, rfl⟩ := am_j_ok h
    exact fun LS H locs cells slots hl hr hc hz => lv_goto hx hb hd ht (kk LS H locs cells slots hl hr hc hz)
  · split at h
    · next c1 o _ _ x st2 t ht =>
      simp only [am_ln] at hn; subst hn
      have ht' := am_tg_ok ht
      by_cases hcd : am_c1 c1 x = true
      · rw [if_pos hcd] at h
        cases h
        intro LS H locs cells slots hl hr hc hz
        cases c1 <;> simp only [am_c1, decide_eq_true_eq] at hcd
        · exact lv_if_eq hx hb hd ht' (fun _ => kk LS H locs cells slots hl hr hc hz) (fun z => absurd hcd z)
        · exact lv_if_ne hx hb hd ht' (fun _ => kk LS H locs cells slots hl hr hc hz) (fun z => absurd z hcd)
        · exact lv_if_lt hx hb hd ht' (fun _ => kk LS H locs cells slots hl hr hc hz) (fun z => absurd hcd z)
        · exact lv_if_ge hx hb hd ht' (fun _ => kk LS H locs cells slots hl hr hc hz) (fun z => absurd hcd z)
        · exact lv_if_gt hx hb hd ht' (fun _ => kk LS H locs cells slots hl hr hc hz) (fun z => absurd hcd z)
        · exact lv_if_le hx hb hd ht' (fun _ => kk LS H locs cells slots hl hr hc hz) (fun z => absurd hcd z)
      · rw [if_neg hcd] at h
        cases h
        intro LS H locs cells slots hl hr hc hz
        cases c1 <;> simp only [am_c1, decide_eq_true_eq] at hcd
        · exact lv_if_eq hx hb hd ht' (fun z => absurd z hcd) (fun _ => kk LS H locs cells slots hl hr hc hz)
        · exact lv_if_ne hx hb hd ht' (fun z => absurd z hcd) (fun _ => kk LS H locs cells slots hl hr hc hz)
        · exact lv_if_lt hx hb hd ht' (fun z => absurd z hcd) (fun _ => kk LS H locs cells slots hl hr hc hz)
        · exact lv_if_ge hx hb hd ht' (fun z => absurd z hcd) (fun _ => kk LS H locs cells slots hl hr hc hz)
        · exact lv_if_gt hx hb hd ht' (fun z => absurd z hcd) (fun _ => kk LS H locs cells slots hl hr hc hz)
        · exact lv_if_le hx hb hd ht' (fun z => absurd z hcd) (fun _ => kk LS H locs cells slots hl hr hc hz)
    · cases h
  · split at h
    · next c1 o _ _ y x st2 t ht =>
      simp only [am_ln] at hn; subst hn
      have ht' := am_tg_ok ht
      by_cases hcd : am_c2 c1 x y = true
      · rw [if_pos hcd] at h
        cases h
        intro LS H locs cells slots hl hr hc hz
        cases c1 <;> simp only [am_c2, decide_eq_true_eq] at hcd
        · exact lv_icmp_eq hx hb hd ht' (fun _ => kk LS H locs cells slots hl hr hc hz) (fun z => absurd hcd z)
        · exact lv_icmp_ne hx hb hd ht' (fun _ => kk LS H locs cells slots hl hr hc hz) (fun z => absurd z hcd)
        · exact lv_icmp_lt hx hb hd ht' (fun _ => kk LS H locs cells slots hl hr hc hz) (fun z => absurd hcd z)
        · exact lv_icmp_ge hx hb hd ht' (fun _ => kk LS H locs cells slots hl hr hc hz) (fun z => absurd hcd z)
        · exact lv_icmp_gt hx hb hd ht' (fun _ => kk LS H locs cells slots hl hr hc hz) (fun z => absurd hcd z)
        · exact lv_icmp_le hx hb hd ht' (fun _ => kk LS H locs cells slots hl hr hc hz) (fun z => absurd hcd z)
      · rw [if_neg hcd] at h
        cases h
        intro LS H locs cells slots hl hr hc hz
        cases c1 <;> simp only [am_c2, decide_eq_true_eq] at hcd
        · exact lv_icmp_eq hx hb hd ht' (fun z => absurd z hcd) (fun _ => kk LS H locs cells slots hl hr hc hz)
        · exact lv_icmp_ne hx hb hd ht' (fun z => absurd z hcd) (fun _ => kk LS H locs cells slots hl hr hc hz)
        · exact lv_icmp_lt hx hb hd ht' (fun z => absurd z hcd) (fun _ => kk LS H locs cells slots hl hr hc hz)
        · exact lv_icmp_ge hx hb hd ht' (fun z => absurd z hcd) (fun _ => kk LS H locs cells slots hl hr hc hz)
        · exact lv_icmp_gt hx hb hd ht' (fun z => absurd z hcd) (fun _ => kk LS H locs cells slots hl hr hc hz)
        · exact lv_icmp_le hx hb hd ht' (fun z => absurd z hcd) (fun _ => kk LS H locs cells slots hl hr hc hz)
    · cases h
  · split at h
    · split at h
      · next hx2 => obtain ⟨ht, rfl, rfl, rfl⟩ := am_j_ok h; exact fun LS H locs cells slots hl hr hc hz => lv_tableOut hx hb hd hx2 ht (kk LS H locs cells slots hl hr hc hz)
      · next hx2 =>
        split at h
        · next o ho => obtain ⟨ht, rfl, rfl, rfl⟩ := am_j_ok h; exact fun LS H locs cells slots hl hr hc hz => lv_tableIn hx hb hd (fun z => hx2 (Or.inl z)) (fun z => hx2 (Or.inr z)) ho ht (kk LS H locs cells slots hl hr hc hz)
        · cases h
    · cases h
  · split at h
    · split at h
      · next hx2 => obtain ⟨ht, rfl, rfl, rfl⟩ := am_j_ok h; exact fun LS H locs cells slots hl hr hc hz => lv_lookup hx hb hd hx2 rfl ht (kk LS H locs cells slots hl hr hc hz)
      · cases h
    · cases h
  · cases h
end AMS
