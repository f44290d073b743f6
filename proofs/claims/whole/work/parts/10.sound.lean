/-! THE SMALL MACHINE IS SOUND, 3: calls, contracts, and the whole -/
noncomputable def am_wk (k : Nat) : List Cond := .code (am_y k) (am_c k) (am_L k) (am_r k) :: am_tb
def am_Pc (D : va_G) (cI cZ : ClassId) (b base : Nat) (X : aX) (As : List Value) (S : aSt) : Array Value → State → Prop := fun v U => v = (As.map (am_up b base)).toArray ∧ U.heap.size = base + S.1.length ∧ va_P D am_cl (am_ws cI cZ b base S) U.heap ∧ va_K D am_cl [(cI, .int), (cZ, .boolean)] U ∧ va_X b X.1 X.2 U U.heap ∧ ∀ w ∈ am_nw, va_Nw w U
def am_Qc (D : va_G) (cI cZ : ClassId) (b base : Nat) (r : Option Value) (S' : aSt) : Array Value → State → Outcome → State → Prop := fun _ st o t => o = .returned (r.map (am_up b base)) ∧ t.heap.size = base + S'.1.length ∧ va_P D am_cl (am_ws cI cZ b base S') t.heap ∧ va_F (fun q => base ≤ q) st t
noncomputable def am_rm (k mc ms : Nat) : Room := { frames := am_fr k, cells := mc, slots := ms, locals := am_lo k }
theorem am_nw_on {w : Cond} (h : w ∈ am_nw) : w.onTables = true ∧ ∃ a i y g, w = .methodLinkNest a i y g := by
  obtain ⟨-, h⟩ := List.mem_filter.mp h
  split at h
  · exact ⟨rfl, _, _, _, _, rfl⟩
  · cases h
theorem am_good_tb {w : Cond} (h : w ∈ am_tb) : goodWord w = true := (List.mem_filter.mp h).2
theorem am_cI {k : Nat} (h0 : 0 < k) (h1 : k < 179) : Cond.code (am_y k) (am_c k) (am_L k) (am_r k) ∈ am_tb ∧ Cond.initialized (am_y k).cls ∈ am_tb ∧ (am_kd k = 0 → Cond.static (am_y k) ∈ am_tb) ∧ (am_kd k = 1 → Cond.instanceMethod (am_y k) ∈ am_tb ∧ Cond.selects (am_y k).cls (am_y k) (am_y k) ∈ am_tb) ∧ (am_kd k = 2 → Cond.instanceMethod (am_y k) ∈ am_tb ∧ (am_y k).name = "<init>" ∧ am_r k = none) ∧ ((am_y k).cls ≠ "java/lang/invoke/MethodHandle" ∧ (am_y k).cls ≠ "java/lang/invoke/VarHandle" ∧ (parseMethodDescriptor (am_y k).desc).map (fun d => d.parameters.length) = some (am_np k)) ∧ plainName (am_y k).cls = true := by
  have hC := am_ckC_all k h0 h1
  have hK := am_ckK_all k h0 h1
  have hP := am_ckP_all k h0 h1
  unfold am_ckC at hC
  unfold am_ckK at hK
  unfold am_ckP at hP
  simp only [Bool.and_eq_true, decide_eq_true_eq] at hK hP
  refine ⟨am_wd_mem hC, am_wd_mem hK.1, fun h => ?_, fun h => ?_, fun h => ?_, ⟨hP.1.1.1, hP.1.1.2, hP.1.2⟩, hP.2⟩
  · have h2 := hK.2
    rw [h] at h2
    exact am_wd_mem h2
  · have h2 := hK.2
    rw [h] at h2
    simp only [Bool.and_eq_true] at h2
    exact ⟨am_wd_mem h2.1, am_wd_mem h2.2⟩
  · have h2 := hK.2
    rw [h] at h2
    simp only [Bool.and_eq_true, decide_eq_true_eq] at h2
    exact ⟨am_wd_mem h2.1.1, h2.1.2, h2.2⟩
theorem am_goodIn {k : Nat} (h0 : 0 < k) (h1 : k < 179) : GoodIn am_tb (am_wk k) := by
  intro w hw
  have hm : w ∈ am_tb := by
    rcases List.mem_cons.mp hw with rfl | h
    · exact (am_cI h0 h1).1
    · exact h
  exact ⟨hm, good_of_word (am_good_tb hm)⟩
theorem am_pop_ok : ∀ (n : Nat) (acc st As rest : List Value), am_pop n acc st = some (As, rest) → ∃ xs, As = xs ++ acc ∧ st = xs.reverse ++ rest ∧ xs.length = n
  | 0, acc, st, As, rest, h => by
    cases h
    exact ⟨[], rfl, rfl, rfl⟩
  | n + 1, acc, [], As, rest, h => by cases h
  | n + 1, acc, v :: st, As, rest, h => by
    obtain ⟨xs, h1, h2, h3⟩ := am_pop_ok n (v :: acc) st As rest h
    exact ⟨xs ++ [v], by rw [h1]; simp, by rw [h2]; simp, by simp [h3]⟩
theorem am_sl_mem (b base : Nat) : ∀ (As : List Value) (off i : Nat) (v : Value), (am_sl As)[i]? = some v → v ≠ .null → (off + i, am_up b base v) ∈ lv_args off (As.map (am_up b base))
  | [], off, i, v, h, hv => by simp [am_sl] at h
  | x :: As, off, i, v, h, hv => by
    unfold am_sl at h
    show _ ∈ (off, am_up b base x) :: lv_args (if (am_up b base x).category = 2 then off + 2 else off + 1) (As.map (am_up b base))
    rw [am_up_cat]
    by_cases hc : x.category = 2
    · rw [if_pos hc] at h
      rw [if_pos hc]
      match i, h with
      | 0, h => cases h; exact List.mem_cons_self
      | 1, h => cases h; exact absurd rfl hv
      | i + 2, h =>
        have := am_sl_mem b base As (off + 2) i v h hv
        rw [show off + (i + 2) = off + 2 + i by omega]
        exact List.mem_cons_of_mem _ this
    · rw [if_neg hc] at h
      rw [if_neg hc]
      match i, h with
      | 0, h => cases h; exact List.mem_cons_self
      | i + 1, h =>
        have := am_sl_mem b base As (off + 1) i v h hv
        rw [show off + (i + 1) = off + 1 + i by omega]
        exact List.mem_cons_of_mem _ this
theorem am_sl_len (b base : Nat) : ∀ As : List Value, (lg_sl (As.map (am_up b base))).length = (am_sl As).length
  | [] => rfl
  | x :: As => by
    have := am_sl_len b base As
    unfold lg_sl at this ⊢
    unfold am_sl
    by_cases hc : x.category = 2
    · simp [am_up_cat, hc]; simpa using this
    · simp [am_up_cat, hc]; simpa using this
theorem am_en_Lr {b base n : Nat} {As : List Value} (h : (am_sl As).length ≤ n) : am_Lr b base n (am_en As n) ((lg_sl (As.map (am_up b base)) ++ List.replicate (n - (lg_sl (As.map (am_up b base))).length) Slot.unset).toArray) := by
  have hh := lv_entry (As.map (am_up b base)) (n := n) (by rw [am_sl_len]; exact h)
  refine ⟨by unfold am_en; simp; omega, hh.1, hh.2.1, fun i v hi hv => ?_⟩
  have := hh.2.2 (0 + i, am_up b base v) (am_sl_mem b base As 0 i v ?_ hv)
  · simpa using this
  · unfold am_en at hi
    by_cases hl : i < (am_sl As).length
    · rw [List.getElem?_append_left hl] at hi
      exact hi
    · rw [List.getElem?_append_right (by omega)] at hi
      have := List.eq_of_mem_replicate (List.mem_of_getElem? hi)
      exact absurd this hv
/-! the heap only grows -/
theorem am_stepE {X : aX} {j pc pc' : Nat} {I : aI} {ls st ls' st' : List Value} {S S' : aSt} (h : am_step X j I pc ls st S = some (pc', ls', st', S')) :
    am_sA I.1 I.2.2.2.2.2 pc I.2.1 ls st S = some (pc', ls', st', S') ∨ am_sB I.1 pc I.2.1 ls st S = some (pc', ls', st', S') ∨ am_sC I.1 pc I.2.1 ls st S = some (pc', ls', st', S') ∨ am_sD I.1 pc I.2.1 ls st S = some (pc', ls', st', S') ∨ am_sE I.1 pc I.2.1 ls st S = some (pc', ls', st', S') ∨ am_sF I.1 pc I.2.1 ls st S = some (pc', ls', st', S') ∨ am_sG j I.1 I.2.2.1 I.2.2.2.1 pc I.2.1 ls st S = some (pc', ls', st', S') ∨ am_sH X (Nat.beq j 0) I.1 pc I.2.1 ls st S = some (pc', ls', st', S') ∨ am_sN j I.1 I.2.2.1 I.2.2.2.1 pc I.2.1 ls st S = some (pc', ls', st', S') := by
  unfold am_step at h
  split at h
  · next r hr => cases h; exact Or.inl hr
  · right
    split at h
    · next r hr => cases h; exact Or.inl hr
    · right
      split at h
      · next r hr => cases h; exact Or.inl hr
      · right
        split at h
        · next r hr => cases h; exact Or.inl hr
        · right
          split at h
          · next r hr => cases h; exact Or.inl hr
          · right
            split at h
            · next r hr => cases h; exact Or.inl hr
            · right
              split at h
              · next r hr => cases h; exact Or.inl hr
              · right
                split at h
                · next r hr => cases h; exact Or.inl hr
                · right
                  exact h
def am_le (S S' : aSt) : Prop := S.1.length ≤ S'.1.length ∧ am_sz S.1 ≤ am_sz S'.1
theorem am_le_rf (S : aSt) : am_le S S := ⟨Nat.le_refl _, Nat.le_refl _⟩
theorem am_le_tr {S S' S'' : aSt} (h : am_le S S') (h' : am_le S' S'') : am_le S S'' := ⟨Nat.le_trans h.1 h'.1, Nat.le_trans h.2 h'.2⟩
theorem am_le_step {X : aX} {j pc pc' : Nat} {I : aI} {ls st ls' st' : List Value} {S S' : aSt} (h : am_step X j I pc ls st S = some (pc', ls', st', S')) : am_le S S' := by
  rcases am_stepE h with h | h | h | h | h | h | h | h | h
  · unfold am_sA at h
    split at h <;> (try split at h) <;> first | (cases h; exact am_le_rf _) | cases h
  · unfold am_sB at h
    split at h <;> (try split at h) <;> first | (obtain ⟨l2, hs, he⟩ := Option.map_eq_some_iff.mp h; cases he; exact am_le_rf _) | cases h
  · unfold am_sC at h
    split at h <;> (try unfold am_i2 at h) <;> (try split at h) <;> (try split at h) <;> first | (cases h; exact am_le_rf _) | cases h
  · unfold am_sD at h
    split at h <;> (try unfold am_l2 at h) <;> (try split at h) <;> (try split at h) <;> first | (cases h; exact am_le_rf _) | cases h
  · unfold am_sE at h
    split at h <;> (try split at h) <;> (try split at h) <;> first | (cases h; exact am_le_rf _) | cases h
  · unfold am_sF at h
    split at h <;> (try split at h) <;> (try split at h) <;> (try split at h) <;> first | (obtain ⟨ht, rfl, rfl, rfl⟩ := am_j_ok h; exact am_le_rf _) | (cases h; exact am_le_rf _) | cases h
  · unfold am_sG at h
    split at h
    · split at h <;> (try split at h) <;> (try split at h) <;> (try split at h) <;> (try split at h) <;> first | (cases h; exact am_le_rf _) | cases h
    · split at h
      · split at h <;> (try split at h) <;> (try split at h) <;> (try split at h) <;> first | (cases h; exact am_le_rf _) | cases h
      · split at h <;> (try split at h) <;> (try split at h) <;> first | (cases h; exact am_le_rf _) | cases h
      · split at h
        · next hs hf =>
          split at h
          · split at h
            · cases h
              exact ⟨by simp, by rw [am_sz_set hs]; exact Nat.le_refl _⟩
            · cases h
          · cases h
        · cases h
      · cases h
    · cases h
  · unfold am_sH at h
    split at h <;> (try split at h) <;> (try split at h) <;> (try split at h) <;> first | (cases h; exact am_le_rf _) | cases h
  · unfold am_sN at h
    split at h
    · split at h
      · cases h
        exact ⟨by simp, by rw [am_sz_app]; omega⟩
      · cases h
    · split at h
      · split at h
        · cases h
        · split at h <;> first | (cases h; exact ⟨by simp, by rw [am_sz_app]; omega⟩) | cases h
      · cases h
    · split at h <;> (try split at h) <;> first | (cases h; exact am_le_rf _) | cases h
    · split at h <;> (try split at h) <;> (try split at h) <;> (try split at h) <;> first | (cases h; exact am_le_rf _) | cases h
    · cases h
theorem am_le_ev {X : aX} : ∀ (n : Nat) {j pc : Nat} {ls st : List Value} {S S' : aSt} {r : Option Value}, am_ev X n j pc ls st S = some (r, S') → am_le S S'
  | 0, j, pc, ls, st, S, S', r, h => by cases h
  | n + 1, j, pc, ls, st, S, S', r, h => by
    unfold am_ev at h
    split at h
    · cases h
    · split at h
      · split at h
        · next h1 => exact am_le_tr (am_le_ev n h1) (am_le_ev n h)
        · cases h
      · split at h
        · cases h; exact am_le_rf _
        · split at h
          · next h1 => exact am_le_tr (am_le_step h1) (am_le_ev n h)
          · cases h
section AMU
variable {p : Program} {l : Launch} {e : Env} {R : Room} {s : State} {m : MethodId} {args : Array Value} {below : List Frame} {meth : Method} {c : Code} {Q : State → Prop} {D : va_G} {cI cZ : ClassId} {b base j n0 z0 : Nat} {X : aX} {pc pc' : Nat} {ls st ls' st' : List Value} {S S' : aSt} {I : aI}
variable {H : Heap} {locs : List Loc} {cells slots : Nat} {LS : Array Slot}
theorem am_blind {As : List Value} : FrameBlind (am_Pc D cI cZ b base X As S) := by
  intro a U g mk h
  obtain ⟨h1, h2, h3, h4, h5, h6⟩ := h
  exact ⟨h1, h2, h3, va_K.moved (u := U) (U := U.calling g mk a) (Vm.Alike.refl U.vm) h4, va_X.moved (u := U) (U := U.calling g mk a) (Vm.Alike.refl U.vm) h5, fun w hw => va_Nw.same (am_nw_on hw).1 (u := U) (U := U.calling g mk a) rfl (h6 w hw)⟩
theorem am_callW {mc ms : Nat} {r1 : Option Value} {S1 : aSt} {a : Array Value} {st0 rest : List Value} (hr : va_Run p l e R s m args below meth c H locs cells slots mc ms (F0 m pc LS st0) rest (am_Qc D cI cZ b base r1 S1 a) (fun q => base ≤ q)) (hrl : am_Rl D cI cZ b base s S H locs)
    (kk : ∀ (H1 : Heap) (locs1 : List Loc), am_Rl D cI cZ b base s S1 H1 locs1 → W p l e R s m args below meth c H1 locs1 (cells + mc) (slots + ms) Q (F0 m (pc + 3) LS ((r1.map (am_up b base)).toList ++ rest))) : W p l e R s m args below meth c H locs cells slots Q (F0 m pc LS st0) := by
  intro T hT X
  obtain ⟨v, st₀, t, T', L, h0, X', hL, e1, e2, ⟨hv, hz, hP, hF⟩, st⟩ := hr T hT X
  cases hv
  obtain ⟨hF1, hF2⟩ := hF
  rw [h0] at hF1 hF2
  obtain ⟨-, -, hS⟩ := hrl
  obtain ⟨t2, a1, b1⟩ := kk T'.heap (locs ++ L) ⟨by rw [e1]; exact hP, by rw [e1]; exact hz, Nat.le_trans hS.1 (by rw [e1]; exact hF1), fun q h1 h2 => by rw [e1, hF2 q (Nat.lt_of_lt_of_le h1 hS.1) h2]; exact hS.2.1 q h1 h2, fun q hq => by
      rcases List.mem_append.mp hq with h | h
      · exact hS.2.2 q h
      · exact hL q h⟩ T' rfl X'
  exact ⟨t2, st t2 a1, b1⟩
end AMU
/-- what is owed of n steps of the evaluator -/
def am_IH (X : aX) (n : Nat) : Prop := ∀ (j pc : Nat) (ls st : List Value) (S S' : aSt) (r : Option Value), am_ev X n j pc ls st S = some (r, S') → ∀ (p : Program) (l : Launch) (e : Env) (R : Room) (s : State) (m : MethodId) (args : Array Value) (below : List Frame) (meth : Method) (c : Code) (D : va_G) (cI cZ : ClassId) (b base n0 z0 : Nat) (Q : State → Prop), am_Cx p s m args meth c R D cI cZ b base X j → S'.1.length ≤ n0 + R.cells → am_sz S'.1 ≤ z0 + R.slots → (∀ (pc : Nat) (ls st : List Value) (I : aI), am_in j pc = some I → am_ret j I.1 st = some r → am_G p l e R s m args below meth c D cI cZ b base j n0 z0 Q pc ls st S') → am_G p l e R s m args below meth c D cI cZ b base j n0 z0 Q pc ls st S
section AMM
variable {p : Program} {l : Launch} {e : Env} {R : Room} {s : State} {m : MethodId} {args : Array Value} {below : List Frame} {meth : Method} {c : Code} {Q : State → Prop} {D : va_G} {cI cZ : ClassId} {b base j n0 z0 : Nat} {X : aX} {pc pc' : Nat} {ls st ls' st' : List Value} {S S' : aSt} {I : aI}
theorem am_met {n k : Nat} (ih : am_IH X n) (h0 : 0 < k) (h1 : k < 179) {As : List Value} {r1 : Option Value} {S1 : aSt} (hl : (am_sl As).length ≤ am_L k) (h : am_ev X n k 0 (am_en As (am_L k)) [] S = some (r1, S1)) (hbb : b < base) :
    Met l (am_y k) (am_wk k) (am_rm k (S1.1.length - S.1.length) (am_sz S1.1 - am_sz S.1)) (am_Pc D cI cZ b base X As S) (am_Qc D cI cZ b base r1 S1) (S1.1.length - S.1.length) (am_sz S1.1 - am_sz S.1) (fun q => base ≤ q) := by
  have hle := am_le_ev n h
  refine Met.ofW (cc := am_c k) (maxL := am_L k) (ret := am_r k) (am_cI h0 h1).2.2.2.2.2.2 rfl ?_
  intro p e s m args below meth c s₁ B hml hv
  obtain ⟨rfl, hsz, hP, hK, hX, hNw⟩ := hv
  have hts := atoms_spec (ws := am_wk k) B.pre
  have hown : s.vm.findClass (am_y k).cls = some m.cls := findClass_of_methodNamed B.named
  have hname : meth.name = (am_y k).name := (name_of_methodNamed B.named B.method).1
  have C : am_Cx p s m (As.map (am_up b base)).toArray meth c (headSpec (am_wk k) (am_rm k (S1.1.length - S.1.length) (am_sz S1.1 - am_sz S.1))).room D cI cZ b base X k := ⟨B.exec, B.bytes, hml, hown, fun w hw => hts w (List.mem_cons_of_mem _ hw), hNw, hK, hX, hbb, by rw [hsz]; exact Nat.le_add_right _ _, Or.inr hname, rfl, rfl⟩
  have hlocks := B.notSynchronized
  have hrt := B.returns
  have G := ih k 0 (am_en As (am_L k)) [] S S1 r1 h p l e (headSpec (am_wk k) (am_rm k (S1.1.length - S.1.length) (am_sz S1.1 - am_sz S.1))).room s m (As.map (am_up b base)).toArray below meth c D cI cZ b base S.1.length (am_sz S.1) (MQ below (am_Qc D cI cZ b base r1 S1) (As.map (am_up b base)).toArray s (S1.1.length - S.1.length) (am_sz S1.1 - am_sz S.1) (fun q => base ≤ q)) C (by show _ ≤ _ + (S1.1.length - S.1.length); have := hle.1; omega) (by show _ ≤ _ + (am_sz S1.1 - am_sz S.1); have := hle.2; omega) ?_
  · rw [lg_entry_eq]
    exact G _ _ [] 0 0 (am_en_Lr hl) ⟨hP, hsz, va_S.rf⟩ (by omega) (by omega)
  · intro pc ls st I hI hr
    have hd := am_hd hI
    intro LS H locs cells slots hlr hrl hc hz
    have ec : S1.1.length - S.1.length = cells := by omega
    have ez : am_sz S1.1 - am_sz S.1 = slots := by omega
    rw [ec, ez]
    have hq : ∀ t : State, t.heap = H → am_Qc D cI cZ b base r1 S1 (As.map (am_up b base)).toArray s (.returned (r1.map (am_up b base))) t := fun t ht => ⟨rfl, by rw [ht]; exact hrl.2.1, by rw [ht]; exact hrl.1, hrl.2.2.F ht⟩
    obtain ⟨i, len, rr⟩ := I
    dsimp only at hr hd
    obtain ⟨hd, -⟩ := hd
    unfold am_ret at hr
    split at hr
    · next e1 => cases hr; exact W.iret B.exec B.bytes (hrt.trans e1) (fun t ht _ => hq t ht) hrl.2.2.2.2 hd
    · next e1 =>
      split at hr
      · next hv => cases hr; exact W.zret B.exec B.bytes (hrt.trans e1) (am_fs_ok hv).1 (fun t ht _ => hq t ht) hrl.2.2.2.2 hd
      · cases hr
    · next e1 => cases hr; exact W.lret B.exec B.bytes (hrt.trans e1) (fun t ht _ => hq t ht) hrl.2.2.2.2 hd
    · next e1 => cases hr; exact W.aret B.exec B.bytes (hrt.trans e1) (Or.inl ⟨_, rfl⟩) (Or.inr ⟨_, rfl⟩) (fun t ht _ => hq t ht) hrl.2.2.2.2 hd
    · next e1 => cases hr; exact W.vret B.exec B.bytes (hrt.trans e1) (fun t ht _ => hq t ht) hrl.2.2.2.2 hd
    · cases hr
theorem am_tl (r : Option Value) (rest : List Value) : (r.toList ++ rest).map (am_up b base) = (r.map (am_up b base)).toList ++ rest.map (am_up b base) := by
  cases r <;> simp
theorem am_catm (st : List Value) : (List.map (fun v => v.category) (List.map (am_up b base) st)) = List.map (fun v => v.category) st := by
  rw [List.map_map]
  exact List.map_congr_left (fun v _ => am_up_cat b base v)
theorem am_rc_ok {k : Nat} {As : List Value} {sh : List aSh} (h0 : 0 < k) (h1 : k < 179) (hk : am_kd k ≠ 0) (h : am_rc As sh (am_kc k) = true) : ∃ (o ci : Nat) (As' : List Value) (rs : List (Option Nat)) (q : vw_C), As = .ref (o + 1) :: As' ∧ sh[o]? = some (.inr (ci, rs)) ∧ am_cl[ci]? = some q ∧ q.1 = (am_y k).cls := by
  have hR := am_ckR_all k h0 h1
  unfold am_ckR at hR
  rw [Bool.or_eq_true] at hR
  have hR := hR.resolve_left (fun e => hk (Nat.eq_of_beq_eq_true e))
  unfold am_rc at h
  split at h
  · split at h
    · next hs =>
      have := Nat.eq_of_beq_eq_true h
      subst this
      split at hR
      · next hq => exact ⟨_, _, _, _, _, rfl, hs, hq, of_decide_eq_true hR⟩
      · cases hR
    · cases h
  · cases h
theorem am_preU {H : Heap} {locs : List Loc} {As : List Value} (C : am_Cx p s m args meth c R D cI cZ b base X j) (hrl : am_Rl D cI cZ b base s S H locs) : ∀ U : State, U.heap = H → s.WarmedH U.vm → am_Pc D cI cZ b base X As S (As.map (am_up b base)).toArray U := by
  intro U hU hW
  obtain ⟨hx, hb, hml, hown, hts, hNw, hK, hX, hbb, hbs, -⟩ := C
  refine ⟨rfl, by rw [hU]; exact hrl.2.1, by rw [hU]; exact hrl.1, va_K.moved hW.alike hK, ?_, fun w hw => ?_⟩
  · rw [hU]
    exact (hX.kept (hrl.2.2.2.1 b (Nat.lt_of_lt_of_le hbb hbs) (Nat.not_le.mpr hbb))).moved hW.alike
  · obtain ⟨-, a1, a2, a3, a4, rfl⟩ := am_nw_on hw
    exact va_Nw.warmM hW (hNw _ hw)
theorem am_okCall {n : Nat} (ih : am_IH X n) (C : am_Cx p s m args meth c R D cI cZ b base X j) (hI : am_in j pc = some I) {k : Nat} {As rest : List Value} (hcall : am_call j I st S = some (k, As, rest)) {r1 : Option Value} {S1 : aSt} (hev : am_ev X n k 0 (am_en As (am_L k)) [] S = some (r1, S1)) (hcell : S1.1.length ≤ n0 + R.cells) (hslot : am_sz S1.1 ≤ z0 + R.slots) (kk : am_G p l e R s m args below meth c D cI cZ b base j n0 z0 Q (pc + 3) ls (r1.toList ++ rest) S1) : am_G p l e R s m args below meth c D cI cZ b base j n0 z0 Q pc ls st S := by
  obtain ⟨i, len, k', b', w, z⟩ := I
  have hd := am_hd hI
  have hw := am_ckW hI
  have C0 := C
  obtain ⟨hx, hb, hml, hown, hts, hNw, hK, hX, hbb, hbs, -, hfr, hlo⟩ := C0
  have hle := am_le_ev n hev
  unfold am_call at hcall
  dsimp only at hcall hd
  cases hops : am_opk i (am_kd k') b' (am_np k') st with
  | none => rw [hops] at hcall; cases hcall
  | some q =>
    obtain ⟨As', rest'⟩ := q
    rw [hops] at hcall
    dsimp only at hcall
    split at hcall
    · next hc =>
      cases hcall
      obtain ⟨h0, h1, hf1, hl1, hcat, hlen, hrc⟩ := hc
      obtain ⟨gcode, gini, gst, gvi, gci, gd, gpl⟩ := am_cI h0 h1
      have hM := am_met (l := l) (D := D) (cI := cI) (cZ := cZ) (b := b) (base := base) ih h0 h1 hlen hev hbb
      have hR : (am_rm k (S1.1.length - S.1.length) (am_sz S1.1 - am_sz S.1)).frames + 1 ≤ R.frames ∧ 8 + (am_L k + 11) + (am_rm k (S1.1.length - S.1.length) (am_sz S1.1 - am_sz S.1)).locals ≤ R.locals := by
        rw [hfr, hlo]
        exact ⟨hf1, hl1⟩
      intro LS H locs cells slots hl hrl hc hz
      have hf : cells + (S1.1.length - S.1.length) ≤ R.cells ∧ slots + (am_sz S1.1 - am_sz S.1) ≤ R.slots := by
        have := hle.1
        have := hle.2
        omega
      have hgo : ∀ (H1 : Heap) (locs1 : List Loc), am_Rl D cI cZ b base s S1 H1 locs1 → W p l e R s m args below meth c H1 locs1 (cells + (S1.1.length - S.1.length)) (slots + (am_sz S1.1 - am_sz S.1)) Q (F0 m (pc + 3) LS ((r1.map (am_up b base)).toList ++ rest.map (am_up b base))) := by
        intro H1 locs1 hrl1
        have h := kk LS H1 locs1 (cells + (S1.1.length - S.1.length)) (slots + (am_sz S1.1 - am_sz S.1)) hl hrl1 (by have := hle.1; omega) (by have := hle.2; omega)
        rw [am_tl] at h
        exact h
      refine am_callW (a := (As.map (am_up b base)).toArray) (r1 := r1) (S1 := S1) (rest := rest.map (am_up b base)) ?_ hrl hgo
      have hroom : (List.map (fun v => v.category) (List.map (am_up b base) rest)).sum ≤ 8 := by rw [am_catm]; exact hcat
      unfold am_opk at hops
      split at hops
      · split at hops
        · next hk =>
          obtain ⟨hkd, hb2⟩ := hk
          obtain ⟨xs, e1, e2, e3⟩ := am_pop_ok _ _ _ _ _ hops
          rw [List.append_nil] at e1
          subst e1
          dsimp only [am_ln, am_cwd] at hd hw
          obtain ⟨hd, -⟩ := hd
          by_cases hb1 : b' = 1
          · rw [if_pos hb1] at hw
            exact va_runSN (As := As.map (am_up b base)) (rest := rest.map (am_up b base)) ⟨hx, hb, hml, hown, hts⟩ hM ⟨va_cnB (am_np k) hts (am_goodIn h0 h1) rfl rfl rfl (hNw _ (List.mem_filter.mpr ⟨am_wn_mem hw, rfl⟩)) (hts _ gini) gd hR, hts _ (gst hkd), trivial⟩ ⟨am_blind, am_preU C hrl⟩ rfl (by rw [List.length_map]; exact e3) hl.2.1 (by show List.map _ st = _; rw [e2]; simp) (lv_room hroom) hd hf
          · rw [if_neg hb1] at hw
            exact va_runS (As := As.map (am_up b base)) (rest := rest.map (am_up b base)) ⟨hx, hb, hml, hown, hts⟩ hM ⟨callB_of (am_np k) hts (am_goodIn h0 h1) rfl rfl rfl (hts _ gini) (hts _ (am_wd_mem hw)) gd hR, hts _ (gst hkd)⟩ ⟨am_blind, am_preU C hrl⟩ rfl (by rw [List.length_map]; exact e3) hl.2.1 (by show List.map _ st = _; rw [e2]; simp) (lv_room hroom) hd hf
        · cases hops
      · split at hops
        · next hk =>
          obtain ⟨hkd, hb0⟩ := hk
          obtain ⟨xs, e1, e2, e3⟩ := am_pop_ok _ _ _ _ _ hops
          rw [List.append_nil] at e1
          subst e1
          obtain ⟨o, ci, As', rs, q, rfl, hs, hq, hqc⟩ := am_rc_ok h0 h1 (by omega) (hrc.resolve_left (by omega))
          dsimp only [am_ln, am_cwd] at hd hw
          obtain ⟨hd, -⟩ := hd
          rw [if_neg (by omega)] at hw
          have hv := gvi hkd
          have hrv := va_recv hK hrl.1 hq (am_ws_at (cI := cI) (cZ := cZ) (b := b) (base := base) hs)
          rw [hqc] at hrv
          exact va_runV (b := base + o) (As := As'.map (am_up b base)) (rest := rest.map (am_up b base)) ⟨hx, hb, hml, hown, hts⟩ hM ⟨callB_of (am_np k) hts (am_goodIn h0 h1) rfl rfl rfl (hts _ gini) (hts _ (am_wd_mem hw)) gd hR, hts _ hv.1, hts _ hv.2⟩ ⟨am_blind, hrv, am_preU C hrl⟩ rfl (by rw [List.length_map]; simpa using e3) hl.2.1 (by show List.map _ st = _; rw [e2]; simp [am_up, am_ad]) (lv_room hroom) hd hf
        · cases hops
      · split at hops
        · next hk =>
          obtain ⟨hkd, hb2⟩ := hk
          obtain ⟨xs, e1, e2, e3⟩ := am_pop_ok _ _ _ _ _ hops
          rw [List.append_nil] at e1
          subst e1
          obtain ⟨o, ci, As', rs, q, rfl, hs, hq, hqc⟩ := am_rc_ok h0 h1 (by omega) (hrc.resolve_left (by omega))
          dsimp only [am_ln, am_cwd] at hd hw
          obtain ⟨hd, -⟩ := hd
          rw [if_neg (by omega)] at hw
          have hv := gci hkd
          rw [hv.2.2] at gcode
          have hwk : am_wk k = Cond.code (am_y k) (am_c k) (am_L k) none :: am_tb := by unfold am_wk; rw [hv.2.2]
          by_cases hb1 : b' = 1
          · rw [if_pos hb1] at hw
            exact va_runIN (b := base + o) (As := As'.map (am_up b base)) (rest := rest.map (am_up b base)) ⟨hx, hb, hml, hown, hts⟩ hM ⟨va_cnB (am_np k) hts (am_goodIn h0 h1) hwk rfl rfl (hNw _ (List.mem_filter.mpr ⟨am_wn_mem hw, rfl⟩)) (hts _ gini) gd hR, hv.2.1, hts _ hv.1⟩ ⟨am_blind, am_preU C hrl⟩ rfl (by rw [List.length_map]; simpa using e3) hl.2.1 (by show List.map _ st = _; rw [e2]; simp [am_up, am_ad]) (lv_room hroom) hd hf
          · rw [if_neg hb1] at hw
            exact va_runI (b := base + o) (As := As'.map (am_up b base)) (rest := rest.map (am_up b base)) ⟨hx, hb, hml, hown, hts⟩ hM ⟨callB_of (am_np k) hts (am_goodIn h0 h1) hwk rfl rfl (hts _ gini) (hts _ (am_wd_mem hw)) gd hR, hv.2.1, hts _ hv.1⟩ ⟨am_blind, am_preU C hrl⟩ rfl (by rw [List.length_map]; simpa using e3) hl.2.1 (by show List.map _ st = _; rw [e2]; simp [am_up, am_ad]) (lv_room hroom) hd hf
        · cases hops
      · cases hops
    · cases hcall
end AMM
theorem am_sound (X : aX) : ∀ n, am_IH X n := by
  intro n
  induction n with
  | zero => intro j pc ls st S S' r h; cases h
  | succ n ih =>
    intro j pc ls st S S' r h p l e R s m args below meth c D cI cZ b base n0 z0 Q C hcell hslot hret
    unfold am_ev at h
    split at h
    · cases h
    · next I hI =>
      split at h
      · next k As rest hcall =>
        split at h
        · next r1 S1 h1 =>
          have hle := am_le_ev n h
          exact am_okCall ih C hI hcall h1 (Nat.le_trans hle.1 hcell) (Nat.le_trans hle.2 hslot) (ih j (pc + 3) ls _ S1 S' r h p l e R s m args below meth c D cI cZ b base n0 z0 Q C hcell hslot hret)
        · cases h
      · split at h
        · next r2 hr => cases h; exact hret pc ls st I hI hr
        · split at h
          · next pc1 ls1 st1 S1 h1 =>
            have hle := am_le_ev n h
            have kk := ih j pc1 ls1 st1 S1 S' r h p l e R s m args below meth c D cI cZ b base n0 z0 Q C hcell hslot hret
            rcases am_stepE h1 with h2 | h2 | h2 | h2 | h2 | h2 | h2 | h2 | h2
            · exact am_okA C hI h2 kk
            · exact am_okB C hI h2 kk
            · exact am_okC C hI h2 kk
            · exact am_okD C hI h2 kk
            · exact am_okE C hI h2 kk
            · exact am_okF C hI h2 kk
            · exact am_okG C hI h2 kk
            · exact am_okH C hI h2 kk
            · exact am_okN C hI h2 (Nat.le_trans hle.1 hcell) (Nat.le_trans hle.2 hslot) kk
          · cases h
