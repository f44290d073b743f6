/-! THE SMALL MACHINE IS SOUND, 2: fields, arrays, making -/
theorem am_lay_good (C : String) (T : u_T) (k : Nat) : goodWord (u_lay C T k) = true := by
  unfold u_lay
  split <;> rfl
theorem am_uws {C : String} {T : u_T} {N : Nat} (h : ∀ w ∈ u_ws C T N, w ∈ lw_tbl) : ∀ w ∈ u_ws C T N, w ∈ am_tb := fun w hw => List.mem_filter.mpr ⟨h w hw, by
  obtain ⟨k, -, rfl⟩ := List.mem_map.mp hw
  exact am_lay_good C T k⟩
def am_clsP (ci : Nat) (q : vw_C) : Prop := (∀ w ∈ u_ws q.1 q.2.1 q.2.2, w ∈ am_tb) ∧ (∀ k, k < q.2.2 → parseFieldDescriptor (q.2.1 k).2.2.1 = some (am_T ci k)) ∧ (∀ a, a < q.2.2 → ∀ b, b < q.2.2 → a ≠ b → (q.2.1 a).2.1 ≠ (q.2.1 b).2.1) ∧ (∀ k, k < q.2.2 → am_fk (am_T ci k) ≠ 9) ∧ Cond.instantiable q.1 q.2.2 ∈ am_tb ∧ Cond.initialized q.1 ∈ am_tb
theorem am_cls : ∀ {ci : Nat} {q : vw_C}, am_cl[ci]? = some q → am_clsP ci q := by
  intro ci q h
  match ci, h with
  | 0, h => cases h; exact ⟨am_uws iwX0, tyX0_ok, nmX0, by decide, List.mem_filter.mpr ⟨List.mem_of_getElem? (i := 185) (by decide +kernel), rfl⟩, List.mem_filter.mpr ⟨List.mem_of_getElem? (i := 67) (by decide +kernel), rfl⟩⟩
  | 1, h => cases h; exact ⟨am_uws iwX1, tyX1_ok, nmX1, by decide, List.mem_filter.mpr ⟨List.mem_of_getElem? (i := 252) (by decide +kernel), rfl⟩, List.mem_filter.mpr ⟨List.mem_of_getElem? (i := 71) (by decide +kernel), rfl⟩⟩
  | 2, h => cases h; exact ⟨am_uws iwX2, tyX2_ok, nmX2, by decide, List.mem_filter.mpr ⟨List.mem_of_getElem? (i := 267) (by decide +kernel), rfl⟩, List.mem_filter.mpr ⟨List.mem_of_getElem? (i := 72) (by decide +kernel), rfl⟩⟩
  | 3, h => cases h; exact ⟨am_uws iwX4, tyX4_ok, nmX4, by decide, List.mem_filter.mpr ⟨List.mem_of_getElem? (i := 218) (by decide +kernel), rfl⟩, List.mem_filter.mpr ⟨List.mem_of_getElem? (i := 69) (by decide +kernel), rfl⟩⟩
  | 4, h => cases h; exact ⟨am_uws iwX5, tyX5_ok, nmX5, by decide, List.mem_filter.mpr ⟨List.mem_of_getElem? (i := 120) (by decide +kernel), rfl⟩, List.mem_filter.mpr ⟨List.mem_of_getElem? (i := 64) (by decide +kernel), rfl⟩⟩
  | 5, h => cases h; exact ⟨am_uws iwX6, tyX6_ok, nmX6, by decide, List.mem_filter.mpr ⟨List.mem_of_getElem? (i := 172) (by decide +kernel), rfl⟩, List.mem_filter.mpr ⟨List.mem_of_getElem? (i := 66) (by decide +kernel), rfl⟩⟩
  | 6, h => cases h; exact ⟨am_uws iwX7, tyX7_ok, nmX7, by decide, List.mem_filter.mpr ⟨List.mem_of_getElem? (i := 239) (by decide +kernel), rfl⟩, List.mem_filter.mpr ⟨List.mem_of_getElem? (i := 70) (by decide +kernel), rfl⟩⟩
  | 7, h => cases h; exact ⟨am_uws iwX8, tyX8_ok, nmX8, by decide, List.mem_filter.mpr ⟨List.mem_of_getElem? (i := 201) (by decide +kernel), rfl⟩, List.mem_filter.mpr ⟨List.mem_of_getElem? (i := 68) (by decide +kernel), rfl⟩⟩
  | 8, h => cases h; exact ⟨am_uws iwX9, tyX9_ok, nmX9, by decide, List.mem_filter.mpr ⟨List.mem_of_getElem? (i := 86) (by decide +kernel), rfl⟩, List.mem_filter.mpr ⟨List.mem_of_getElem? (i := 63) (by decide +kernel), rfl⟩⟩
  | 9, h => cases h; exact ⟨am_uws iwX10, tyX10_ok, nmX10, by decide, List.mem_filter.mpr ⟨List.mem_of_getElem? (i := 135) (by decide +kernel), rfl⟩, List.mem_filter.mpr ⟨List.mem_of_getElem? (i := 65) (by decide +kernel), rfl⟩⟩
  | 10, h => cases h; exact ⟨am_uws iwX11, tyX11_ok, nmX11, by decide, List.mem_filter.mpr ⟨List.mem_of_getElem? (i := 78) (by decide +kernel), rfl⟩, List.mem_filter.mpr ⟨List.mem_of_getElem? (i := 62) (by decide +kernel), rfl⟩⟩
  | 11, h => cases h; exact ⟨am_uws iwX12, tyX12_ok, nmX12, by decide, List.mem_filter.mpr ⟨List.mem_of_getElem? (i := 719) (by decide +kernel), rfl⟩, List.mem_filter.mpr ⟨List.mem_of_getElem? (i := 73) (by decide +kernel), rfl⟩⟩
  | k + 12, h => simp [am_cl] at h
theorem am_N_eq {ci : Nat} {q : vw_C} (h : am_cl[ci]? = some q) : am_N ci = q.2.2 := by unfold am_N; rw [h]
def am_fl (b base ci : Nat) (rs : List (Option Nat)) (f : Nat → Int32) (g : Nat → Int64) : List Value := (List.range (am_N ci)).map fun k => am_fv b base (am_T ci k) (rs.getD k none) (f k) (g k)
theorem am_fl_get {b base ci k : Nat} {rs : List (Option Nat)} {f : Nat → Int32} {g : Nat → Int64} (hk : k < am_N ci) : (am_fl b base ci rs f g)[k]? = some (am_fv b base (am_T ci k) (rs.getD k none) (f k) (g k)) := by
  unfold am_fl
  rw [List.getElem?_map, List.getElem?_range hk]
  rfl
theorem am_fl_len {b base ci : Nat} {rs : List (Option Nat)} {f : Nat → Int32} {g : Nat → Int64} : (am_fl b base ci rs f g).length = am_N ci := by simp [am_fl]
theorem am_fl_set {b base ci k : Nat} {rs rs' : List (Option Nat)} {f f' : Nat → Int32} {g g' : Nat → Int64} {v : Value} (hk : k < am_N ci) (hv : v = am_fv b base (am_T ci k) (rs'.getD k none) (f' k) (g' k)) (hne : ∀ i, i ≠ k → rs'.getD i none = rs.getD i none ∧ f' i = f i ∧ g' i = g i) : (am_fl b base ci rs f g).set k v = am_fl b base ci rs' f' g' := by
  apply List.ext_getElem?
  intro i
  by_cases hi : i = k
  · subst hi
    rw [List.getElem?_set_self (by rw [am_fl_len]; exact hk), am_fl_get hk, hv]
  · rw [List.getElem?_set_ne (Ne.symm hi)]
    by_cases hn : i < am_N ci
    · obtain ⟨h1, h2, h3⟩ := hne i hi
      rw [am_fl_get hn, am_fl_get hn, h1, h2, h3]
    · rw [List.getElem?_eq_none (by rw [am_fl_len]; omega), List.getElem?_eq_none (by rw [am_fl_len]; omega)]
theorem am_set_self {α : Type} {l : List α} {o : Nat} {x : α} (h : l[o]? = some x) : l.set o x = l := by
  apply List.ext_getElem?
  intro i
  by_cases hi : i = o
  · subst hi
    rw [List.getElem?_set_self (List.getElem?_eq_some_iff.mp h).1, h]
  · rw [List.getElem?_set_ne (Ne.symm hi)]
theorem am_arr_int : Cond.arrayClass (newarray.typeOf .int) ∈ am_tb := List.mem_filter.mpr ⟨List.mem_of_getElem? (i := 118) (by decide +kernel), rfl⟩
theorem am_arr_bool : Cond.arrayClass (newarray.typeOf .boolean) ∈ am_tb := List.mem_filter.mpr ⟨List.mem_of_getElem? (i := 833) (by decide +kernel), rfl⟩
theorem am_obj_inst : Cond.instanceMethod Lib.objectInit ∈ am_tb := List.mem_filter.mpr ⟨List.mem_of_getElem? (i := 83) (by decide +kernel), rfl⟩
theorem am_obj_code : Cond.code Lib.objectInit ⟨#[0xb1]⟩ 1 none ∈ am_tb := List.mem_filter.mpr ⟨List.mem_of_getElem? (i := 84) (by decide +kernel), rfl⟩
theorem am_max_st : Cond.static Lib.Math.max.name ∈ am_tb := List.mem_filter.mpr ⟨List.mem_of_getElem? (i := 621) (by decide +kernel), rfl⟩
theorem am_max_code : Cond.code Lib.Math.max.name Lib.Math.max.code 2 (some .int) ∈ am_tb := List.mem_filter.mpr ⟨List.mem_of_getElem? (i := 622) (by decide +kernel), rfl⟩
theorem am_min_st : Cond.static Lib.Math.min.name ∈ am_tb := List.mem_filter.mpr ⟨List.mem_of_getElem? (i := 434) (by decide +kernel), rfl⟩
theorem am_min_code : Cond.code Lib.Math.min.name Lib.Math.min.code 2 (some .int) ∈ am_tb := List.mem_filter.mpr ⟨List.mem_of_getElem? (i := 435) (by decide +kernel), rfl⟩
theorem am_math_in : Cond.initialized "java/lang/Math" ∈ am_tb := List.mem_filter.mpr ⟨List.mem_of_getElem? (i := 74) (by decide +kernel), rfl⟩
section AMT
variable {p : Program} {l : Launch} {e : Env} {R : Room} {s : State} {m : MethodId} {args : Array Value} {below : List Frame} {meth : Method} {c : Code} {Q : State → Prop} {D : va_G} {cI cZ : ClassId} {b base j n0 z0 : Nat} {X : aX} {pc pc' : Nat} {ls st ls' st' : List Value} {S S' : aSt} {I : aI}
variable {H : Heap} {locs : List Loc} {cells slots : Nat} {LS : Array Slot}
theorem am_ws_get (i : Nat) : (am_ws cI cZ b base S)[i]? = (S.1[i]?).map fun c => (base + i, am_ce cI cZ b base c (S.2.1 (i + 1)) (S.2.2 (i + 1))) := by
  unfold am_ws
  rw [List.getElem?_mapIdx]
theorem am_ws_at {i : Nat} {c : aSh} (h : S.1[i]? = some c) : (am_ws cI cZ b base S)[i]? = some (base + i, am_ce cI cZ b base c (S.2.1 (i + 1)) (S.2.2 (i + 1))) := by
  rw [am_ws_get, h]
  rfl
theorem am_ws_D : va_D (fun q => base ≤ q) (am_ws cI cZ b base S) := by
  refine ⟨fun i k x y hi hk he => ?_, fun k q hk => ?_⟩
  · rw [am_ws_get] at hi hk
    obtain ⟨c1, h1, e1⟩ := Option.map_eq_some_iff.mp hi
    obtain ⟨c2, h2, e2⟩ := Option.map_eq_some_iff.mp hk
    rw [← e1, ← e2] at he
    dsimp only at he
    omega
  · rw [am_ws_get] at hk
    obtain ⟨c1, h1, e1⟩ := Option.map_eq_some_iff.mp hk
    rw [← e1]
    dsimp only
    omega
theorem am_ws_len : (am_ws cI cZ b base S).length = S.1.length := by simp [am_ws]
/-- a cell is changed: the rest stays -/
theorem am_ws_set {o : Nat} {c c' : aSh} {f' : Nat → Int32} {g' : Nat → Int64} (h : S.1[o]? = some c) (hs : S'.1 = S.1.set o c') (hf : S'.2.1 (o + 1) = f') (hg : S'.2.2 (o + 1) = g') (hn : ∀ q, q ≠ o + 1 → S'.2.1 q = S.2.1 q ∧ S'.2.2 q = S.2.2 q) : (am_ws cI cZ b base S).set o (base + o, am_ce cI cZ b base c' f' g') = am_ws cI cZ b base S' := by
  have hl := (List.getElem?_eq_some_iff.mp h).1
  apply List.ext_getElem?
  intro i
  rw [am_ws_get (S := S')]
  by_cases hi : i = o
  · subst hi
    rw [List.getElem?_set_self (by rw [am_ws_len]; exact hl), hs, List.getElem?_set_self hl]
    simp [hf, hg]
  · rw [List.getElem?_set_ne (Ne.symm hi), am_ws_get, hs, List.getElem?_set_ne (Ne.symm hi)]
    obtain ⟨h1, h2⟩ := hn (i + 1) (by omega)
    rw [h1, h2]
theorem am_ws_app {c : aSh} {f : Nat → Int32} {g : Nat → Int64} (hs : S'.1 = S.1 ++ [c]) (hf : S'.2.1 (S.1.length + 1) = f) (hg : S'.2.2 (S.1.length + 1) = g) (hn : ∀ q, q ≠ S.1.length + 1 → S'.2.1 q = S.2.1 q ∧ S'.2.2 q = S.2.2 q) : am_ws cI cZ b base S ++ [(base + S.1.length, am_ce cI cZ b base c f g)] = am_ws cI cZ b base S' := by
  apply List.ext_getElem?
  intro i
  rw [am_ws_get (S := S')]
  by_cases hi : i < S.1.length
  · rw [List.getElem?_append_left (by rw [am_ws_len]; exact hi), am_ws_get, hs, List.getElem?_append_left hi]
    obtain ⟨h1, h2⟩ := hn (i + 1) (by omega)
    rw [h1, h2]
  · rw [List.getElem?_append_right (by rw [am_ws_len]; omega), hs, List.getElem?_append_right (by omega), am_ws_len]
    by_cases hq : i = S.1.length
    · subst hq
      simp [hf, hg]
    · rw [List.getElem?_eq_none (by simp; omega), List.getElem?_eq_none (by simp; omega)]
      rfl
theorem am_ft_ok {a k : Nat} {t : FieldType} {f : Bool} (h : am_ft a k = some (t, f)) : ∃ q, am_cl[a]? = some q ∧ k < q.2.2 ∧ t = am_T a k ∧ f = (q.2.1 k).2.2.2 := by
  unfold am_ft at h
  split at h
  · next q t2 h1 h2 =>
    split at h
    · next hk =>
      cases h
      exact ⟨q, h1, hk, by unfold am_T; rw [h2], rfl⟩
    · cases h
  · cases h
theorem am_getf (C : am_Cx p s m args meth c R D cI cZ b base X j) {x len a k w : Nat} {z : Int} (hI : am_in j pc = some (.getfield x, len, a, k, w, z)) {o : Nat} {rs : List (Option Nat)} {t : FieldType} {f : Bool} (hs : S.1[o]? = some (.inr (a, rs))) (hf : am_ft a k = some (t, f)) {v : Value} (hv : am_fv b base t (rs.getD k none) (S.2.1 (o + 1) k) (S.2.2 (o + 1) k) = am_up b base v) (kk : am_G p l e R s m args below meth c D cI cZ b base j n0 z0 Q (pc + len) ls (v :: st) S) : am_G p l e R s m args below meth c D cI cZ b base j n0 z0 Q pc ls (.ref (o + 1) :: st) S := by
  obtain ⟨q, hq, hk, rfl, -⟩ := am_ft_ok hf
  have hd := am_hd hI
  have hw := am_ckW hI
  obtain ⟨hx, hb, hml, hown, hts, -, hK, -⟩ := C
  dsimp only [am_ln, am_cwd] at hd hw
  rw [hq] at hw
  rw [Bool.and_eq_true] at hw
  obtain ⟨hd, rfl⟩ := hd
  intro LS H locs cells slots hl hr hc hz
  have hN := am_N_eq hq
  refine va_get (C := q.1) (T := q.2.1) (N := q.2.2) hx hb hts (am_cls hq).1 hown hK hr.1 o (am_ws_at hs) hq k hk (hts _ (am_wd_mem hw.2)) (fun _ h => h) (v := am_up b base v) ?_ hd (kk LS H locs cells slots hl hr hc hz)
  exact (am_fl_get (by omega)).trans (by rw [hv])
/-- a field is written, with the heap's size -/
theorem am_put (C : am_Cx p s m args meth c R D cI cZ b base X j) {x len a k w : Nat} {z : Int} (hI : am_in j pc = some (.putfield x, len, a, k, w, z)) {q : vw_C} (hq : am_cl[a]? = some q) (hk : k < q.2.2) {o : Nat} {rs : List (Option Nat)} (hs : S.1[o]? = some (.inr (a, rs))) {v : Value} (hn : narrow (am_T a k) v = v) (hfit : fits (am_T a k) v = true) (hr : am_Rl D cI cZ b base s S H locs)
    (hfin : (q.2.1 k).2.2.2 = false ∨ ((q.2.1 k).2.2.2 = true ∧ (am_y j).name = "<init>" ∧ (q.2.1 k).1 = (am_y j).cls))
    (kk : ∀ (H1 : Heap) (locs1 : List Loc), va_P D am_cl ((am_ws cI cZ b base S).set o (base + o, .inr (a, (am_fl b base a rs (S.2.1 (o + 1)) (S.2.2 (o + 1))).set k v))) H1 → H1.size = H.size → va_S (fun q => base ≤ q) s.heap H1 locs1 → W p l e R s m args below meth c H1 locs1 cells slots Q (F0 m (pc + len) LS (st.map (am_up b base)))) : W p l e R s m args below meth c H locs cells slots Q (F0 m pc LS (v :: .ref (base + o) :: st.map (am_up b base))) := by
  have hd := am_hd hI
  have hw := am_ckW hI
  obtain ⟨hx, hb, hml, hown, hts, -, hK, -, -, -, hnm2, -⟩ := C
  obtain ⟨hin, hty, hnm, -⟩ := am_cls hq
  dsimp only [am_ln, am_cwd] at hd hw
  rw [hq] at hw
  rw [Bool.and_eq_true] at hw
  obtain ⟨hd, rfl⟩ := hd
  have hN := am_N_eq hq
  obtain ⟨hP, hsz, hS0⟩ := hr
  have hlink := hts _ (am_wd_mem hw.2)
  have he : (am_ws cI cZ b base S)[o]? = some (base + o, .inr (a, am_fl b base a rs (S.2.1 (o + 1)) (S.2.2 (o + 1)))) := am_ws_at hs
  have hap := va_apart (own := (am_y j).cls) hts hin (am_T a) hty hnm hK hq
  obtain ⟨r, h1, cell, q1, q2, q3, q4⟩ := hP o _ he
  have hr : r = q := Option.some.inj (h1.symm.trans hq)
  subst hr
  obtain ⟨hS, hfc, kC, hkC, hkind⟩ := hK.1 a _ hq
  obtain ⟨cf, kf, fi, f, hi, hsl⟩ := hS k hk
  have hlay := hts _ (hin _ (u_in_lay hk))
  have hst := (u_facts hfc hkC (u_lays hts hin hk) hi).1
  have hD : va_D (fun q => base ≤ q) (am_ws cI cZ b base S) := am_ws_D
  unfold u_lay at hlay
  rcases hfin with hfin | ⟨hfin, hini, hdecl⟩
  · rw [if_neg (by rw [hfin]; decide)] at hlay
    have h6 := u_store hfc hkC hkind hlay hi (hty k hk) hn hfit
    refine W.putK hx hb (f := f) ⟨hown, hlink, ⟨_, _, _, hi⟩, hst⟩ (by rw [q2]; exact h6) q1 q3 (by rw [hsl]; exact k2_hasslot (q4 k hk)) rfl rfl hd fun H' e1 e2 e3 => ?_
    rw [hsl] at e1 ⊢
    exact kk H' _ (hP.set hD he ⟨_, hq, t_OB.to (V := updV (vp_V (am_fl b base a rs (S.2.1 (o + 1)) (S.2.2 (o + 1)))) k v) ⟨_, e1, q2, q3, t_set q4 hap hk v⟩ (fun j _ => vp_updV_set (by rw [am_fl_len]; omega) v j)⟩ e3) e2 (hS0.put e2 e3 (hD.2 o _ he))
  · rw [if_pos hfin] at hlay
    have hcf : m.cls = cf := by
      obtain ⟨_, _, c', _, _, _, -, -, hf', -, -, -, hown2, -⟩ := Cond.laysFinal_spec hlay
      have e1 : c' = cf := by have := hi.symm.trans hf'; simp at this; exact this.1.symm
      rw [hdecl] at hown2
      rw [← e1]; exact Option.some.inj (hown.symm.trans hown2)
    have hnm2 : meth.name = (am_y j).name := hnm2.resolve_left (fun e => by
      rw [e] at hini
      exact absurd hini (by decide +kernel))
    have h6 := u_fits hfc hkC hkind (Or.inr hlay) hi (hty k hk) hn hfit
    refine W.putFinK hx hb hown hlink hi hst hcf (hnm2.trans hini) (by rw [q2]; exact h6) q1 q3 (by rw [hsl]; exact k2_hasslot (q4 k hk)) rfl rfl hd fun H' e1 e2 e3 => ?_
    rw [hsl] at e1 ⊢
    exact kk H' _ (hP.set hD he ⟨_, hq, t_OB.to (V := updV (vp_V (am_fl b base a rs (S.2.1 (o + 1)) (S.2.2 (o + 1)))) k v) ⟨_, e1, q2, q3, t_set q4 hap hk v⟩ (fun j _ => vp_updV_set (by rw [am_fl_len]; omega) v j)⟩ e3) e2 (hS0.put e2 e3 (hD.2 o _ he))
theorem am_fs_ok {x : Int32} (h : am_fs x = true) : narrow .boolean (.int x) = .int x ∧ fits .boolean (.int x) = true := by
  unfold am_fs at h
  rw [Bool.or_eq_true, decide_eq_true_eq, decide_eq_true_eq] at h
  rcases h with rfl | rfl
  · exact ⟨rfl, rfl⟩
  · exact ⟨rfl, rfl⟩
theorem am_fk_0 {t : FieldType} (h : am_fk t = 0) : t = .int := by
  cases t <;> simp [am_fk] at h ⊢
theorem am_fk_3 {t : FieldType} (h : am_fk t = 3) : t = .boolean := by
  cases t <;> simp [am_fk] at h ⊢
theorem am_fk_1 {t : FieldType} (h : am_fk t = 1) : t = .long := by
  cases t <;> simp [am_fk] at h ⊢
theorem am_fk_2 {t : FieldType} (h : am_fk t = 2) (r : Nat) : narrow t (.ref r) = .ref r ∧ fits t (.ref r) = true := by
  cases t <;> simp [am_fk] at h
  · exact ⟨rfl, rfl⟩
  · exact ⟨rfl, rfl⟩
theorem am_wi_s {m : Nat → Nat → Int32} {o k : Nat} {x : Int32} : am_wi m o k x o = upd (m o) k x := by simp [am_wi]
theorem am_wi_n {m : Nat → Nat → Int32} {o k q : Nat} {x : Int32} (h : q ≠ o) : am_wi m o k x q = m q := by simp [am_wi, h]
theorem am_wl_s {m : Nat → Nat → Int64} {o k : Nat} {x : Int64} : am_wl m o k x o = vp_updL (m o) k x := by simp [am_wl]
theorem am_wl_n {m : Nat → Nat → Int64} {o k q : Nat} {x : Int64} (h : q ≠ o) : am_wl m o k x q = m q := by simp [am_wl, h]
theorem am_puti (C : am_Cx p s m args meth c R D cI cZ b base X j) {x len a k w : Nat} {z : Int} (hI : am_in j pc = some (.putfield x, len, a, k, w, z)) {o : Nat} {rs : List (Option Nat)} {t : FieldType} (hs : S.1[o]? = some (.inr (a, rs))) (hf : am_ft a k = some (t, false)) {v : Int32} (hv : am_fk t = 0 ∨ (am_fk t = 3 ∧ am_fs v = true)) (kk : am_G p l e R s m args below meth c D cI cZ b base j n0 z0 Q (pc + len) ls st (S.1, am_wi S.2.1 (o + 1) k v, S.2.2)) : am_G p l e R s m args below meth c D cI cZ b base j n0 z0 Q pc ls (.int v :: .ref (o + 1) :: st) S := by
  obtain ⟨q, hq, hk, rfl, hfi⟩ := am_ft_ok hf
  intro LS H locs cells slots hl hr hc hz
  have hN := am_N_eq hq
  have h2 : narrow (am_T a k) (.int v) = .int v ∧ fits (am_T a k) (.int v) = true := by
    rcases hv with h | ⟨h, h3⟩
    · rw [am_fk_0 h]; exact ⟨rfl, rfl⟩
    · rw [am_fk_3 h]; exact am_fs_ok h3
  refine am_put C hI hq hk hs h2.1 h2.2 hr (Or.inl hfi.symm) fun H1 locs1 hP hz1 hS1 => ?_
  refine kk LS H1 locs1 cells slots hl ⟨?_, hz1.trans hr.2.1, hS1⟩ hc hz
  rw [am_fl_set (f' := upd (S.2.1 (o + 1)) k v) (g' := S.2.2 (o + 1)) (rs' := rs) (by omega) (by
    rcases hv with h | ⟨h, h3⟩ <;> simp [am_fv, h, upd, am_up]) (fun i hi => ⟨rfl, by simp [upd, hi], rfl⟩)] at hP
  have := am_ws_set (cI := cI) (cZ := cZ) (b := b) (base := base) (S := S) (S' := (S.1, am_wi S.2.1 (o + 1) k v, S.2.2)) (c' := .inr (a, rs)) hs (am_set_self hs).symm am_wi_s rfl (fun q hq => ⟨am_wi_n hq, rfl⟩)
  rw [← this]
  exact hP
theorem am_putl (C : am_Cx p s m args meth c R D cI cZ b base X j) {x len a k w : Nat} {z : Int} (hI : am_in j pc = some (.putfield x, len, a, k, w, z)) {o : Nat} {rs : List (Option Nat)} {t : FieldType} (hs : S.1[o]? = some (.inr (a, rs))) (hf : am_ft a k = some (t, false)) {v : Int64} (hv : am_fk t = 1) (kk : am_G p l e R s m args below meth c D cI cZ b base j n0 z0 Q (pc + len) ls st (S.1, S.2.1, am_wl S.2.2 (o + 1) k v)) : am_G p l e R s m args below meth c D cI cZ b base j n0 z0 Q pc ls (.long v :: .ref (o + 1) :: st) S := by
  obtain ⟨q, hq, hk, rfl, hfi⟩ := am_ft_ok hf
  intro LS H locs cells slots hl hr hc hz
  have hN := am_N_eq hq
  have h2 : narrow (am_T a k) (.long v) = .long v ∧ fits (am_T a k) (.long v) = true := by
    rw [am_fk_1 hv]; exact ⟨rfl, rfl⟩
  refine am_put C hI hq hk hs h2.1 h2.2 hr (Or.inl hfi.symm) fun H1 locs1 hP hz1 hS1 => ?_
  refine kk LS H1 locs1 cells slots hl ⟨?_, hz1.trans hr.2.1, hS1⟩ hc hz
  rw [am_fl_set (f' := S.2.1 (o + 1)) (g' := vp_updL (S.2.2 (o + 1)) k v) (rs' := rs) (by omega) (by simp [am_fv, hv, vp_updL, am_up]) (fun i hi => ⟨rfl, rfl, by simp [vp_updL, hi]⟩)] at hP
  have := am_ws_set (cI := cI) (cZ := cZ) (b := b) (base := base) (S := S) (S' := (S.1, S.2.1, am_wl S.2.2 (o + 1) k v)) (c' := .inr (a, rs)) hs (am_set_self hs).symm rfl am_wl_s (fun q hq => ⟨rfl, am_wl_n hq⟩)
  rw [← this]
  exact hP
theorem am_sz_set {sh : List aSh} {o ci : Nat} {rs rs' : List (Option Nat)} (h : sh[o]? = some (.inr (ci, rs))) : am_sz (sh.set o (.inr (ci, rs'))) = am_sz sh := by
  unfold am_sz
  congr 1
  apply List.ext_getElem?
  intro i
  rw [List.getElem?_map, List.getElem?_map]
  by_cases hi : i = o
  · subst hi
    rw [List.getElem?_set_self (List.getElem?_eq_some_iff.mp h).1, h]
    rfl
  · rw [List.getElem?_set_ne (Ne.symm hi)]
theorem am_putr (C : am_Cx p s m args meth c R D cI cZ b base X j) {x len a k w : Nat} {z : Int} (hI : am_in j pc = some (.putfield x, len, a, k, w, z)) {o r : Nat} {rs : List (Option Nat)} {t : FieldType} (hs : S.1[o]? = some (.inr (a, rs))) (hf : am_ft a k = some (t, true)) (hv : am_fk t = 2) (hkr : k < rs.length) (hini : (am_y j).name = "<init>") (hdc : (am_cl[a]?.map (fun q => (q.2.1 k).1)) = some (am_y j).cls) (kk : am_G p l e R s m args below meth c D cI cZ b base j n0 z0 Q (pc + len) ls st (S.1.set o (.inr (a, rs.set k (some r))), S.2)) : am_G p l e R s m args below meth c D cI cZ b base j n0 z0 Q pc ls (.ref r :: .ref (o + 1) :: st) S := by
  obtain ⟨q, hq, hk, rfl, hfi⟩ := am_ft_ok hf
  intro LS H locs cells slots hl hr hc hz
  have hN := am_N_eq hq
  have h2 := am_fk_2 hv (am_ad b base r)
  rw [hq] at hdc
  refine am_put C hI hq hk hs h2.1 h2.2 hr (Or.inr ⟨hfi.symm, hini, Option.some.inj hdc⟩) fun H1 locs1 hP hz1 hS1 => ?_
  refine kk LS H1 locs1 cells slots hl ⟨?_, ?_, hS1⟩ (by rw [List.length_set]; exact hc) (by rw [am_sz_set hs]; exact hz)
  · rw [am_fl_set (f' := S.2.1 (o + 1)) (g' := S.2.2 (o + 1)) (rs' := rs.set k (some r)) (by omega) (by simp [am_fv, hv, hkr, am_up]) (fun i hi => ⟨by simp [Ne.symm hi], rfl, rfl⟩)] at hP
    have := am_ws_set (cI := cI) (cZ := cZ) (b := b) (base := base) (S := S) (S' := (S.1.set o (.inr (a, rs.set k (some r))), S.2)) (c' := .inr (a, rs.set k (some r))) hs rfl rfl rfl (fun q hq => ⟨rfl, rfl⟩)
    rw [← this]
    exact hP
  · show H1.size = base + (S.1.set o _).length
    rw [List.length_set]
    exact hz1.trans hr.2.1
theorem am_okG (C : am_Cx p s m args meth c R D cI cZ b base X j) (hI : am_in j pc = some I) (h : am_sG j I.1 I.2.2.1 I.2.2.2.1 pc I.2.1 ls st S = some (pc', ls', st', S')) (kk : am_G p l e R s m args below meth c D cI cZ b base j n0 z0 Q pc' ls' st' S') : am_G p l e R s m args below meth c D cI cZ b base j n0 z0 Q pc ls st S := by
  obtain ⟨i, len, a, k, w, z⟩ := I
  dsimp only at h
  unfold am_sG at h
  split at h
  · split at h
    · split at h
      · next hs hf =>
        split at h
        · next hci =>
          subst hci
          split at h
          · next hk => cases h; exact am_getf C hI hs hf (by simp [am_fv, hk, am_up]) kk
          · next hk => cases h; exact am_getf C hI hs hf (by simp [am_fv, hk, am_up]) kk
          · next hk => cases h; exact am_getf C hI hs hf (by simp [am_fv, hk, am_up]) kk
          · next hk =>
            split at h
            · next hr => cases h; exact am_getf C hI hs hf (by simp [am_fv, hk, am_up, List.getD, hr]) kk
            · cases h
          · cases h
        · cases h
      · cases h
    · cases h
  · split at h
    · split at h
      · next hs hf =>
        split at h
        · next hci =>
          obtain ⟨hci, hfi⟩ := hci
          subst hci; subst hfi
          split at h
          · next hk => cases h; exact am_puti C hI hs hf (Or.inl hk) kk
          · next hk =>
            split at h
            · next hx => cases h; exact am_puti C hI hs hf (Or.inr ⟨hk, hx⟩) kk
            · cases h
          · cases h
        · cases h
      · cases h
    · split at h
      · next hs hf =>
        split at h
        · next hci =>
          obtain ⟨hci, hfi⟩ := hci
          subst hci; subst hfi
          split at h
          · next hk => cases h; exact am_putl C hI hs hf hk kk
          · cases h
        · cases h
      · cases h
    · split at h
      · next hs hf =>
        split at h
        · next hci =>
          obtain ⟨hci, hfi, hkr, hini, hdc⟩ := hci
          subst hci; subst hfi
          split at h
          · next hk => cases h; exact am_putr C hI hs hf hk hkr hini hdc kk
          · cases h
        · cases h
      · cases h
    · cases h
  · cases h
theorem am_ix_ok {i : Int32} {n : Nat} (h : am_ix i n = true) : vp_in i n := by
  unfold am_ix at h
  unfold vp_in
  simp only [Bool.not_eq_true', Bool.or_eq_false_iff, decide_eq_false_iff_not] at h
  exact fun q => q.elim h.1 h.2
theorem am_ast (C : am_Cx p s m args meth c R D cI cZ b base X j) {len : Nat} {r : aR} (z : Bool) {ins : Instr} (hz0 : ins = if z = true then .bastore else .iastore) (hI : am_in j pc = some (ins, len, r)) {o n : Nat} (hs : S.1[o]? = some (.inl (z, n))) {i x : Int32} (hx0 : z = true → am_fs x = true) (hin : vp_in i n) (kk : am_G p l e R s m args below meth c D cI cZ b base j n0 z0 Q (pc + len) ls st (S.1, am_wi S.2.1 (o + 1) i.toNatClampNeg x, S.2.2)) : am_G p l e R s m args below meth c D cI cZ b base j n0 z0 Q pc ls (.int x :: .int i :: .ref (o + 1) :: st) S := by
  have hd := am_hd hI
  obtain ⟨hx, hb, hml, hown, hts, -, hK, -⟩ := C
  intro LS H locs cells slots hl hr hc hz
  obtain ⟨hP, hsz, hS0⟩ := hr
  have ha : (am_ws cI cZ b base S)[o]? = some (base + o, .inl ((if z = true then cZ else cI), n, .inl (S.2.1 (o + 1)))) := am_ws_at hs
  have hD : va_D (fun q => base ≤ q) (am_ws cI cZ b base S) := am_ws_D
  have hfin : ∀ (H1 : Heap), H1[base + o]? = some (vp_cell (if z = true then cZ else cI) (n, .inl (upd (S.2.1 (o + 1)) i.toNatClampNeg x))) → H1.size = H.size → (∀ q : Nat, q ≠ base + o → H1[q]? = H[q]?) → ∀ kx, am_Rl D cI cZ b base s (S.1, am_wi S.2.1 (o + 1) i.toNatClampNeg x, S.2.2) H1 (locs ++ [⟨base + o, kx⟩]) := by
    intro H1 e1 e2 e3 kx
    refine ⟨?_, e2.trans hsz, hS0.put e2 e3 (hD.2 o _ ha)⟩
    have := am_ws_set (cI := cI) (cZ := cZ) (b := b) (base := base) (S := S) (S' := (S.1, am_wi S.2.1 (o + 1) i.toNatClampNeg x, S.2.2)) (c' := .inl (z, n)) hs (am_set_self hs).symm am_wi_s rfl (fun q hq => ⟨am_wi_n hq, rfl⟩)
    rw [← this]
    exact hP.set hD ha e1 e3
  cases z with
  | false =>
    have hz1 : ins = .iastore := hz0
    clear hz0
    subst hz1
    dsimp only [am_ln] at hd
    obtain ⟨hd, rfl⟩ := hd
    refine W.iast hx hb (hP o _ ha) ((hK.2 0 _ rfl).1 n (fun j => .int (S.2.1 (o + 1) j))) (fun q => by cases q) (by show ¬ (i < 0 ∨ (arrV _ _ _).slots.size ≤ _); rw [arrV_size]; exact hin) rfl rfl hd fun H1 e1 e2 e3 => ?_
    refine kk LS H1 _ cells slots hl (hfin H1 ?_ e2 e3 _) hc hz
    rw [e1]
    show some _ = some (vp_cell _ _)
    rw [vp_cell_i, vp_cell_i, arrV_store]
    congr 2
    funext q
    by_cases hq : q = i.toNatClampNeg
    · subst hq
      simp [updV, upd]
    · simp [updV, upd, hq]
  | true =>
    have hz1 : ins = .bastore := hz0
    clear hz0
    subst hz1
    dsimp only [am_ln] at hd
    obtain ⟨hd, rfl⟩ := hd
    refine W.zast hx hb (hP o _ ha) ((hK.2 1 _ rfl).1 n (fun j => .int (S.2.1 (o + 1) j))) (fun q => by cases q) (by show ¬ (i < 0 ∨ (arrV _ _ _).slots.size ≤ _); rw [arrV_size]; exact hin) rfl rfl hd fun H1 e1 e2 e3 => ?_
    refine kk LS H1 _ cells slots hl (hfin H1 ?_ e2 e3 _) hc hz
    rw [e1]
    show some _ = some (vp_cell _ _)
    rw [vp_cell_i, vp_cell_i, arrV_store]
    congr 2
    funext q
    by_cases hq : q = i.toNatClampNeg
    · subst hq
      simp [updV, upd, (am_fs_ok (hx0 rfl)).1]
    · simp [updV, upd, hq]
theorem am_okH (C : am_Cx p s m args meth c R D cI cZ b base X j) (hI : am_in j pc = some I) {fl : Bool} (h : am_sH X fl I.1 pc I.2.1 ls st S = some (pc', ls', st', S')) (kk : am_G p l e R s m args below meth c D cI cZ b base j n0 z0 Q pc' ls' st' S') : am_G p l e R s m args below meth c D cI cZ b base j n0 z0 Q pc ls st S := by
  obtain ⟨i, len, r⟩ := I
  have hd := am_hd hI
  have C0 := C
  obtain ⟨hx, hb, hml, hown, hts, -, hK, hX, hbb, hbs, -⟩ := C0
  have hbA : ¬ (fun q => base ≤ q) b := Nat.not_le.mpr hbb
  dsimp only at h hd
  obtain ⟨hd, hn⟩ := hd
  unfold am_sH at h
  split at h
  · split at h
    · split at h
      · cases h; simp only [am_ln] at hn; subst hn
        exact fun LS H locs cells slots hl hr hc hz => va_slen hx hb hX (Nat.lt_of_lt_of_le hbb hbs) hbA hr.2.2 hd (kk LS H locs cells slots hl hr hc hz)
      · cases h
    · cases h
  · split at h
    · split at h
      · next hi => cases h; simp only [am_ln] at hn; subst hn; exact fun LS H locs cells slots hl hr hc hz => va_sld hx hb hX (Nat.lt_of_lt_of_le hbb hbs) hbA hr.2.2 (am_ix_ok hi.2) hd (kk LS H locs cells slots hl hr hc hz)
      · cases h
    · split at h
      · next hs =>
        split at h
        · next hi => cases h; simp only [am_ln] at hn; subst hn; exact fun LS H locs cells slots hl hr hc hz => va_iald hx hb hK hr.1 _ 0 (am_ws_at hs) rfl (am_ix_ok hi) hd (kk LS H locs cells slots hl hr hc hz)
        · cases h
      · cases h
    · cases h
  · split at h
    · split at h
      · next hs =>
        split at h
        · next hi => cases h; simp only [am_ln] at hn; subst hn; exact fun LS H locs cells slots hl hr hc hz => va_zald hx hb hK hr.1 _ 1 (am_ws_at hs) rfl (am_ix_ok hi) hd (kk LS H locs cells slots hl hr hc hz)
        · cases h
      · cases h
    · cases h
  · split at h
    · split at h
      · next hs =>
        split at h
        · next hi => cases h; exact am_ast C false rfl hI hs (fun h => by cases h) (am_ix_ok hi) kk
        · cases h
      · cases h
    · cases h
  · split at h
    · split at h
      · next hs =>
        split at h
        · next hi => cases h; exact am_ast C true rfl hI hs (fun _ => hi.2) (am_ix_ok hi.1) kk
        · cases h
      · cases h
    · cases h
  · cases h
theorem am_sz_app {sh : List aSh} {c : aSh} : am_sz (sh ++ [c]) = am_sz sh + am_cz c := by simp [am_sz]
theorem am_zi_s {m : Nat → Nat → Int32} {o : Nat} : am_zi m o o = fun _ => 0 := by simp [am_zi]
theorem am_zi_n {m : Nat → Nat → Int32} {o q : Nat} (h : q ≠ o) : am_zi m o q = m q := by simp [am_zi, h]
theorem am_zl_s {m : Nat → Nat → Int64} {o : Nat} : am_zl m o o = fun _ => 0 := by simp [am_zl]
theorem am_zl_n {m : Nat → Nat → Int64} {o q : Nat} (h : q ≠ o) : am_zl m o q = m q := by simp [am_zl, h]
/-- a new cell: what stood stays -/
theorem am_push {cc' : aSh} {H1 : Heap} (hr : am_Rl D cI cZ b base s S H locs) (hbs : base ≤ s.heap.size) (hat : va_at D am_cl (base + S.1.length, am_ce cI cZ b base cc' (fun _ => 0) (fun _ => 0)) H1) (z1 : H1.size = H.size + 1) (o1 : ∀ q, q < H.size → H1[q]? = H[q]?) : am_Rl D cI cZ b base s (S.1 ++ [cc'], am_zi S.2.1 (S.1.length + 1), am_zl S.2.2 (S.1.length + 1)) H1 locs := by
  obtain ⟨hP, hsz, hS⟩ := hr
  have hk : ∀ (k : Nat) (x : Nat × va_E), (am_ws cI cZ b base S)[k]? = some x → H1[x.1]? = H[x.1]? := fun k x hx => o1 x.1 ((hP k x hx).lt)
  refine ⟨?_, ?_, ?_⟩
  · have := am_ws_app (cI := cI) (cZ := cZ) (b := b) (base := base) (S := S) (S' := (S.1 ++ [cc'], am_zi S.2.1 (S.1.length + 1), am_zl S.2.2 (S.1.length + 1))) (c := cc') rfl am_zi_s am_zl_s (fun q hq => ⟨am_zi_n hq, am_zl_n hq⟩)
    rw [← this]
    refine (hP.kept hk).app (fun k x hx => ?_)
    have hz : k < 1 := (List.getElem?_eq_some_iff.mp hx).1
    rw [show k = 0 by omega] at hx
    cases hx
    exact hat
  · show H1.size = base + (S.1 ++ [cc']).length
    rw [List.length_append, z1, hsz]
    simp
    omega
  · exact ⟨Nat.le_trans hS.1 (by omega), fun x h1 h2 => (o1 x (Nat.lt_of_lt_of_le h1 hS.1)).trans (hS.2.1 x h1 h2), hS.2.2⟩
theorem am_new (C : am_Cx p s m args meth c R D cI cZ b base X j) {x len a k w : Nat} {z : Int} (hI : am_in j pc = some (.new x, len, a, k, w, z)) {q : vw_C} (hq : am_cl[a]? = some q) (hcell : S.1.length + 1 ≤ n0 + R.cells) (hslot : am_sz S.1 + q.2.2 ≤ z0 + R.slots) (kk : am_G p l e R s m args below meth c D cI cZ b base j n0 z0 Q (pc + len) ls (.ref (S.1.length + 1) :: st) (S.1 ++ [.inr (a, List.replicate q.2.2 none)], am_zi S.2.1 (S.1.length + 1), am_zl S.2.2 (S.1.length + 1))) : am_G p l e R s m args below meth c D cI cZ b base j n0 z0 Q pc ls st S := by
  have hd := am_hd hI
  have hw := am_ckW hI
  obtain ⟨hx, hb, hml, hown, hts, -, hK, -, -, hbs, -⟩ := C
  obtain ⟨hin, hty, hnm, h9, hinst, hini⟩ := am_cls hq
  dsimp only [am_ln, am_cwd] at hd hw
  rw [hq] at hw
  obtain ⟨hd, rfl⟩ := hd
  have hN := am_N_eq hq
  intro LS H locs cells slots hl hr hc hz
  have hKn := hK.1 a _ hq
  refine W.newcK hx hb hown (hts _ (am_wd_mem hw)) (hts _ hinst) (hts _ hini) rfl hd (by omega) (by omega) hKn.2.1 rfl fun H1 kC hkC e1 z1 o1 => ?_
  have hH : H.size = base + S.1.length := hr.2.1
  rw [hH]
  refine kk LS H1 locs (cells + 1) (slots + q.2.2) hl (am_push hr hbs ⟨q, hq, ?_⟩ z1 o1) (by simp; omega) (by rw [am_sz_app]; simp [am_cz, hN]; omega)
  rw [← hH]
  refine (u_born (am_T a) hts hin hKn hkC e1 hty).to (fun i hi => ?_)
  show _ = vp_V (am_fl b base a (List.replicate q.2.2 none) (fun _ => 0) (fun _ => 0)) i
  unfold vp_V
  rw [List.getD, am_fl_get (by omega)]
  have h10 := h9 i hi
  generalize am_T a i = t at h10
  cases t <;> simp [am_fk] at h10 <;> simp [am_fv, am_fk, defaultValue, hi]
theorem am_newa (C : am_Cx p s m args meth c R D cI cZ b base X j) {len : Nat} {r : aR} (zb : Bool) {at0 : ArrayType} (hat : at0 = if zb = true then .boolean else .int) (hI : am_in j pc = some (.newarray at0, len, r)) {n : Int32} (hn : ¬ n < 0) (hn2 : n.toNatClampNeg ≤ 4096) (hcell : S.1.length + 1 ≤ n0 + R.cells) (hslot : am_sz S.1 + n.toNatClampNeg ≤ z0 + R.slots) (kk : am_G p l e R s m args below meth c D cI cZ b base j n0 z0 Q (pc + len) ls (.ref (S.1.length + 1) :: st) (S.1 ++ [.inl (zb, n.toNatClampNeg)], am_zi S.2.1 (S.1.length + 1), am_zl S.2.2 (S.1.length + 1))) : am_G p l e R s m args below meth c D cI cZ b base j n0 z0 Q pc ls (.int n :: st) S := by
  have hd := am_hd hI
  obtain ⟨hx, hb, hml, hown, hts, -, hK, -, -, hbs, -⟩ := C
  dsimp only [am_ln] at hd
  obtain ⟨hd, rfl⟩ := hd
  intro LS H locs cells slots hl hr hc hz
  have hH : H.size = base + S.1.length := hr.2.1
  cases zb with
  | false =>
    subst hat
    refine va_newaK (atype := .int) hx hb (hts _ am_arr_int) rfl hd rfl hn rfl (by show _ * 4 ≤ _; omega) (by omega) (by omega) hH fun H1 cA e1 z1 o1 hAr hNm => ?_
    have hcA : cA = cI := Option.some.inj (hNm.symm.trans (hK.2 0 _ rfl).2)
    subst hcA
    exact kk LS H1 locs (cells + 1) (slots + n.toNatClampNeg) hl (am_push hr hbs e1 (by omega) (by rw [hH]; exact o1)) (by simp; omega) (by rw [am_sz_app]; simp [am_cz]; omega)
  | true =>
    subst hat
    refine va_newaK (atype := .boolean) hx hb (hts _ am_arr_bool) rfl hd rfl hn rfl (by show _ * 1 ≤ _; omega) (by omega) (by omega) hH fun H1 cA e1 z1 o1 hAr hNm => ?_
    have hcA : cA = cZ := Option.some.inj (hNm.symm.trans (hK.2 1 _ rfl).2)
    subst hcA
    exact kk LS H1 locs (cells + 1) (slots + n.toNatClampNeg) hl (am_push hr hbs e1 (by omega) (by rw [hH]; exact o1)) (by simp; omega) (by rw [am_sz_app]; simp [am_cz]; omega)
theorem am_okN (C : am_Cx p s m args meth c R D cI cZ b base X j) (hI : am_in j pc = some I) (h : am_sN j I.1 I.2.2.1 I.2.2.2.1 pc I.2.1 ls st S = some (pc', ls', st', S')) (hcell : S'.1.length ≤ n0 + R.cells) (hslot : am_sz S'.1 ≤ z0 + R.slots) (kk : am_G p l e R s m args below meth c D cI cZ b base j n0 z0 Q pc' ls' st' S') : am_G p l e R s m args below meth c D cI cZ b base j n0 z0 Q pc ls st S := by
  obtain ⟨i, len, a, k, w, z⟩ := I
  have hd := am_hd hI
  have hw := am_ckW hI
  have C0 := C
  obtain ⟨hx, hb, hml, hown, hts, -, hK, -, -, -, -, hfr, hlo⟩ := C0
  dsimp only at h hd
  unfold am_sN at h
  split at h
  · split at h
    · next q hq =>
      cases h
      rw [am_sz_app] at hslot
      simp [am_cz, am_N_eq hq] at hslot hcell
      exact am_new C hI hq (by omega) (by omega) kk
    · cases h
  · split at h
    · split at h
      · cases h
      · next hn =>
        split at h
        · cases h
          rw [am_sz_app] at hslot
          simp [am_cz] at hslot hcell
          exact am_newa C false rfl hI (fun q => hn (Or.inl q)) (by omega) (by omega) (by omega) kk
        · cases h
          rw [am_sz_app] at hslot
          simp [am_cz] at hslot hcell
          exact am_newa C true rfl hI (fun q => hn (Or.inl q)) (by omega) (by omega) (by omega) kk
        · cases h
    · cases h
  · split at h
    · split at h
      · next hk =>
        cases h
        obtain ⟨rfl, h1, h2⟩ := hk
        dsimp only [am_ln, am_cwd] at hd hw
        obtain ⟨hd, rfl⟩ := hd
        intro LS H locs cells slots hl hr hc hz
        refine W.objInit hx hb hown (hts _ (am_wd_mem hw)) (hts _ am_obj_inst) (hts _ am_obj_code) rfl (by show LS.size = _; rw [hml]; exact hl.2.1) rfl hd (by omega) ?_ (kk LS H locs cells slots hl hr hc hz)
        show 2 * 0 + _ + 12 ≤ _
        rw [List.map_map]
        have : (List.map ((fun v => v.category) ∘ am_up b base) st') = List.map (fun v => v.category) st' := List.map_congr_left (fun v _ => am_up_cat b base v)
        rw [this]
        omega
      · cases h
    · cases h
  · split at h
    · split at h
      · next hk =>
        obtain ⟨rfl, h1, h2⟩ := hk
        dsimp only [am_ln, am_cwd] at hd hw
        obtain ⟨hd, rfl⟩ := hd
        rw [if_neg (by decide)] at hw
        have hw := hts _ (am_wd_mem hw)
        have hcat : ∀ st : List Value, (List.map (fun v => v.category) (List.map (am_up b base) st)) = List.map (fun v => v.category) st := fun st => by
          rw [List.map_map]
          exact List.map_congr_left (fun v _ => am_up_cat b base v)
        split at h
        · next ha =>
          subst ha
          cases h
          intro LS H locs cells slots hl hr hc hz
          exact va_mmax hx hb (by rw [hml]; exact hl.2.1.symm) hown hw (hts _ am_max_st) (hts _ am_math_in) (hts _ am_max_code) (by omega) (by rw [hcat]; omega) (by omega) (by omega) hd (kk LS H locs cells slots hl hr hc hz)
        · split at h
          · next ha =>
            subst ha
            cases h
            intro LS H locs cells slots hl hr hc hz
            exact va_mmin hx hb (by rw [hml]; exact hl.2.1.symm) hown hw (hts _ am_min_st) (hts _ am_math_in) (hts _ am_min_code) (by omega) (by rw [hcat]; omega) (by omega) (by omega) hd (kk LS H locs cells slots hl hr hc hz)
          · cases h
      · cases h
    · cases h
  · cases h
end AMT
