/-! what the tables say of each instruction -/
def am_wd (w : Nat) (c : Cond) : Bool := decide (lw_tbl[w]? = some c) && goodWord c
def am_wn (w : Nat) (c : Cond) : Bool := decide (lw_tbl[w]? = some c)
def am_tb : List Cond := lw_tbl.filter goodWord
/-- how long an instruction is -/
def am_ln (i : Instr) (n : Nat) : Nat := match i with
  | .bipush _ => 2
  | .ldc _ => 2
  | .iload _ => 2
  | .lload _ => 2
  | .aload _ => 2
  | .istore _ => 2
  | .lstore _ => 2
  | .newarray _ => 2
  | .sipush _ => 3
  | .ldc_w _ => 3
  | .ldc2_w _ => 3
  | .iinc _ _ => 3
  | .goto _ => 3
  | .ifCond _ _ => 3
  | .if_icmp _ _ => 3
  | .getfield _ => 3
  | .putfield _ => 3
  | .invokestatic _ => 3
  | .invokevirtual _ => 3
  | .invokespecial _ => 3
  | .new _ => 3
  | .tableswitch _ _ _ _ => n
  | .lookupswitch _ _ => n
  | _ => 1
noncomputable def am_ckI (j pc : Nat) (I : aI) : Bool :=
  decide (decode (am_c j) pc = .ok (I.1, I.2.1)) && decide (I.2.1 = am_ln I.1 I.2.1) && (match I with
  | (i, _, a, b, w, k) => match i with
    | .getfield x => (match am_cl[a]? with
      | some q => decide (b < q.2.2) && am_wd w (.fieldLink (am_y j).cls x (q.2.1 b).1 (q.2.1 b).2.1 (q.2.1 b).2.2.1)
      | none => false)
    | .putfield x => (match am_cl[a]? with
      | some q => decide (b < q.2.2) && am_wd w (.fieldLink (am_y j).cls x (q.2.1 b).1 (q.2.1 b).2.1 (q.2.1 b).2.2.1)
      | none => false)
    | .invokestatic x => if b = 1 then am_wn w (.methodLinkNest (am_y j).cls x (am_y a) "StringNuts") else am_wd w (.methodLink (am_y j).cls x (am_y a))
    | .invokevirtual x => if b = 1 then am_wn w (.methodLinkNest (am_y j).cls x (am_y a) "StringNuts") else am_wd w (.methodLink (am_y j).cls x (am_y a))
    | .invokespecial x => if b = 2 then am_wd w (.methodLink (am_y j).cls x objectInit) else if b = 1 then am_wn w (.methodLinkNest (am_y j).cls x (am_y a) "StringNuts") else am_wd w (.methodLink (am_y j).cls x (am_y a))
    | .new x => (match am_cl[a]? with
      | some q => am_wd w (.classLink (am_y j).cls x q.1)
      | none => false)
    | .ldc x => am_wd w (.constant (am_y j).cls x (Int32.ofInt k))
    | .ldc_w x => am_wd w (.constant (am_y j).cls x (Int32.ofInt k))
    | .ldc2_w x => am_wd w (.constantLong (am_y j).cls x (Int64.ofInt k))
    | _ => true)
noncomputable def am_ckM (j : Nat) : Bool := (List.range (am_len j)).all fun pc => match am_tr j pc with
  | none => true
  | some I => am_ckI j pc I
noncomputable def am_ckC (j : Nat) : Bool := am_wd (am_w j).1 (.code (am_y j) (am_c j) (am_L j) (am_r j))
noncomputable def am_ckK (j : Nat) : Bool := am_wd (am_w j).2.1 (.initialized (am_y j).cls) &&
  (match am_kd j with
  | 0 => am_wd (am_w j).2.2.1 (.static (am_y j))
  | 1 => am_wd (am_w j).2.2.1 (.instanceMethod (am_y j)) && am_wd (am_w j).2.2.2 (.selects (am_y j).cls (am_y j) (am_y j))
  | _ => am_wd (am_w j).2.2.1 (.instanceMethod (am_y j)) && decide ((am_y j).name = "<init>") && decide (am_r j = none))
noncomputable def am_ckP (j : Nat) : Bool := decide ((am_y j).cls ≠ "java/lang/invoke/MethodHandle" ∧ (am_y j).cls ≠ "java/lang/invoke/VarHandle") && decide ((parseMethodDescriptor (am_y j).desc).map (fun d => d.parameters.length) = some (am_np j)) && plainName (am_y j).cls
