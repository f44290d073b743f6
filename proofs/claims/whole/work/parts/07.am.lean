/-! THE SMALL MACHINE: an evaluator of the claim's own bytecode over a heap of numbered cells; its soundness comes in the parts behind -/
abbrev aSh : Type := (Bool × Nat) ⊕ (Nat × List (Option Nat))
abbrev aMem : Type := (Nat → Nat → Int32) × (Nat → Nat → Int64)
abbrev aSt : Type := List aSh × aMem
abbrev aX : Type := Nat × (Nat → Int32)
abbrev aO : Type := Option (Nat × List Value × List Value × aSt)
def am_wi (m : Nat → Nat → Int32) (o k : Nat) (x : Int32) : Nat → Nat → Int32 := fun q => if q = o then upd (m o) k x else m q
def am_wl (m : Nat → Nat → Int64) (o k : Nat) (x : Int64) : Nat → Nat → Int64 := fun q => if q = o then vp_updL (m o) k x else m q
def am_zi (m : Nat → Nat → Int32) (o : Nat) : Nat → Nat → Int32 := fun q => if q = o then (fun _ => 0) else m q
def am_zl (m : Nat → Nat → Int64) (o : Nat) : Nat → Nat → Int64 := fun q => if q = o then (fun _ => 0) else m q
def am_tg (pc : Nat) (off : Int) : Option Nat := if 0 ≤ (pc : Int) + off then some ((pc : Int) + off).toNat else none
/-- the field's type: 0 whole number or truth, 1 long, 2 reference -/
def am_fk (t : FieldType) : Nat := match t with
  | .int => 0
  | .boolean => 3
  | .long => 1
  | .object _ => 2
  | .array _ => 2
  | _ => 9
noncomputable def am_ft (ci k : Nat) : Option (FieldType × Bool) := match am_cl[ci]?, am_ct[ci]? with
  | some q, some t => if k < q.2.2 then some (t k, (q.2.1 k).2.2.2) else none
  | _, _ => none
/-- constants and loads -/
def am_sA (i : Instr) (k : Int) (pc len : Nat) (ls st : List Value) (S : aSt) : aO :=
  match i with
  | .iconst n => some (pc + len, ls, .int (Int32.ofInt n) :: st, S)
  | .bipush n => some (pc + len, ls, .int (Int8.ofInt n).toInt32 :: st, S)
  | .sipush n => some (pc + len, ls, .int (Int16.ofInt n).toInt32 :: st, S)
  | .lconst n => some (pc + len, ls, .long (Int64.ofNat (n : Nat)) :: st, S)
  | .ldc _ => some (pc + len, ls, .int (Int32.ofInt k) :: st, S)
  | .ldc_w _ => some (pc + len, ls, .int (Int32.ofInt k) :: st, S)
  | .ldc2_w _ => some (pc + len, ls, .long (Int64.ofInt k) :: st, S)
  | .iload i => match ls[i]? with
    | some (.int x) => some (pc + len, ls, .int x :: st, S)
    | _ => none
  | .iload_n i => match ls[(i : Nat)]? with
    | some (.int x) => some (pc + len, ls, .int x :: st, S)
    | _ => none
  | .lload i => match ls[i]? with
    | some (.long x) => some (pc + len, ls, .long x :: st, S)
    | _ => none
  | .lload_n i => match ls[(i : Nat)]? with
    | some (.long x) => some (pc + len, ls, .long x :: st, S)
    | _ => none
  | .aload i => match ls[i]? with
    | some (.ref x) => some (pc + len, ls, .ref x :: st, S)
    | _ => none
  | .aload_n i => match ls[(i : Nat)]? with
    | some (.ref x) => some (pc + len, ls, .ref x :: st, S)
    | _ => none
  | _ => none
def am_pre (ls : List Value) (i : Nat) : Bool := match i with
  | 0 => true
  | i + 1 => match ls[i]? with
    | some v => v.category != 2
    | none => true
def am_s1 (ls : List Value) (i : Nat) (v : Value) : Option (List Value) := if i < ls.length ∧ am_pre ls i = true then some (ls.set i v) else none
def am_s2 (ls : List Value) (i : Nat) (v : Value) : Option (List Value) := if i + 1 < ls.length ∧ am_pre ls i = true then some ((ls.set i v).set (i + 1) .null) else none
/-- stores -/
def am_sB (i : Instr) (pc len : Nat) (ls st : List Value) (S : aSt) : aO :=
  match i with
  | .istore i => match st with
    | .int x :: st => (am_s1 ls i (.int x)).map fun l => (pc + len, l, st, S)
    | _ => none
  | .istore_n i => match st with
    | .int x :: st => (am_s1 ls i (.int x)).map fun l => (pc + len, l, st, S)
    | _ => none
  | .astore_n i => match st with
    | .ref x :: st => (am_s1 ls i (.ref x)).map fun l => (pc + len, l, st, S)
    | _ => none
  | .lstore i => match st with
    | .long x :: st => (am_s2 ls i (.long x)).map fun l => (pc + len, l, st, S)
    | _ => none
  | .lstore_n i => match st with
    | .long x :: st => (am_s2 ls i (.long x)).map fun l => (pc + len, l, st, S)
    | _ => none
  | .iinc i n => match ls[i]? with
    | some (.int x) => (am_s1 ls i (.int (x + Int32.ofInt n))).map fun l => (pc + len, l, st, S)
    | _ => none
  | _ => none
/-- whole numbers -/
def am_sC (i : Instr) (pc len : Nat) (ls st : List Value) (S : aSt) : aO :=
  match st with
  | .int y :: .int x :: st => match i with
    | .iadd => some (pc + len, ls, .int (x + y) :: st, S)
    | .isub => some (pc + len, ls, .int (x - y) :: st, S)
    | .imul => some (pc + len, ls, .int (x * y) :: st, S)
    | .iand => some (pc + len, ls, .int (x &&& y) :: st, S)
    | .ior => some (pc + len, ls, .int (x ||| y) :: st, S)
    | .ixor => some (pc + len, ls, .int (x ^^^ y) :: st, S)
    | .ishl => some (pc + len, ls, .int (x <<< (y &&& 31)) :: st, S)
    | .ishr => some (pc + len, ls, .int (x >>> (y &&& 31)) :: st, S)
    | .iushr => some (pc + len, ls, .int (x.toUInt32 >>> (y.toUInt32 &&& Int32.toUInt32 31)).toInt32 :: st, S)
    | .idiv => if y = 0 then none else some (pc + len, ls, .int (x / y) :: st, S)
    | .irem => if y = 0 then none else some (pc + len, ls, .int (x - x / y * y) :: st, S)
    | _ => none
  | _ => none
/-- longs -/
def am_sD (i : Instr) (pc len : Nat) (ls st : List Value) (S : aSt) : aO :=
  match st with
  | .long y :: .long x :: st => match i with
    | .ladd => some (pc + len, ls, .long (x + y) :: st, S)
    | .lsub => some (pc + len, ls, .long (x - y) :: st, S)
    | .lmul => some (pc + len, ls, .long (x * y) :: st, S)
    | .land => some (pc + len, ls, .long (x &&& y) :: st, S)
    | .lor => some (pc + len, ls, .long (x ||| y) :: st, S)
    | .ldiv => if y = 0 then none else some (pc + len, ls, .long (x / y) :: st, S)
    | .lrem => if y = 0 then none else some (pc + len, ls, .long (x - x / y * y) :: st, S)
    | .lcmp => some (pc + len, ls, .int (lg_cmp x y) :: st, S)
    | _ => none
  | .int y :: .long x :: st => match i with
    | .lshl => some (pc + len, ls, .long (x <<< (y.toInt64 &&& 63)) :: st, S)
    | .lshr => some (pc + len, ls, .long (x >>> (y.toInt64 &&& 63)) :: st, S)
    | _ => none
  | _ => none
/-- conversions and the operand stack -/
def am_sE (i : Instr) (pc len : Nat) (ls st : List Value) (S : aSt) : aO :=
  match i with
  | .i2l => match st with
    | .int x :: st => some (pc + len, ls, .long x.toInt64 :: st, S)
    | _ => none
  | .l2i => match st with
    | .long x :: st => some (pc + len, ls, .int x.toInt32 :: st, S)
    | _ => none
  | .dup => match st with
    | v :: st => if v.category = 1 then some (pc + len, ls, v :: v :: st, S) else none
    | _ => none
  | .pop => match st with
    | v :: st => if v.category = 1 then some (pc + len, ls, st, S) else none
    | _ => none
  | .dup2 => match st with
    | v :: w :: st => if v.category = 1 ∧ w.category = 1 then some (pc + len, ls, v :: w :: v :: w :: st, S) else none
    | _ => none
  | _ => none
def am_j (t : Option Nat) (ls st : List Value) (S : aSt) : aO := t.map fun t => (t, ls, st, S)
def am_c1 (c : Jvm.ClassFile.Cond) (x : Int32) : Bool := match c with
  | .eq => decide (x = 0)
  | .ne => decide (¬ x = 0)
  | .lt => decide (x < 0)
  | .ge => decide (0 ≤ x)
  | .gt => decide (0 < x)
  | .le => decide (x ≤ 0)
def am_c2 (c : Jvm.ClassFile.Cond) (x y : Int32) : Bool := match c with
  | .eq => decide (x = y)
  | .ne => decide (¬ x = y)
  | .lt => decide (x < y)
  | .ge => decide (y ≤ x)
  | .gt => decide (y < x)
  | .le => decide (x ≤ y)
/-- jumps -/
def am_sF (i : Instr) (pc len : Nat) (ls st : List Value) (S : aSt) : aO :=
  match i with
  | .goto o => am_j (am_tg pc o) ls st S
  | .ifCond c o => match st, am_tg pc o with
    | .int x :: st, some t => if am_c1 c x = true then some (t, ls, st, S) else some (pc + len, ls, st, S)
    | _, _ => none
  | .if_icmp c o => match st, am_tg pc o with
    | .int y :: .int x :: st, some t => if am_c2 c x y = true then some (t, ls, st, S) else some (pc + len, ls, st, S)
    | _, _ => none
  | .tableswitch d lo hi offs => match st with
    | .int x :: st => if x.toInt < lo ∨ hi < x.toInt then am_j (am_tg pc d) ls st S else match offs[(x.toInt - lo).toNat]? with
      | some o => am_j (am_tg pc o) ls st S
      | none => none
    | _ => none
  | .lookupswitch d ps => match st with
    | .int x :: st => if (ps.toList.zip (ps.toList.drop 1)).all (fun (a, next) => a.1 < next.1) = true then am_j (am_tg pc (Op.lookupswitch.offset ps.toList d x.toInt)) ls st S else none
    | _ => none
  | _ => none
def am_fs (x : Int32) : Bool := decide (x = 0) || decide (x = 1)
/-- fields: a the number of the class, b the slot -/
noncomputable def am_sG (j : Nat) (i : Instr) (a b : Nat) (pc len : Nat) (ls st : List Value) (S : aSt) : aO :=
  match i with
  | .getfield _ => match st with
    | .ref (o + 1) :: st => match S.1[o]?, am_ft a b with
      | some (.inr (ci, rs)), some (t, _) => if ci = a then (match am_fk t with
        | 0 => some (pc + len, ls, .int (S.2.1 (o + 1) b) :: st, S)
        | 3 => some (pc + len, ls, .int (S.2.1 (o + 1) b) :: st, S)
        | 1 => some (pc + len, ls, .long (S.2.2 (o + 1) b) :: st, S)
        | 2 => match rs[b]? with
          | some (some k) => some (pc + len, ls, .ref k :: st, S)
          | _ => none
        | _ => none) else none
      | _, _ => none
    | _ => none
  | .putfield _ => match st with
    | .int x :: .ref (o + 1) :: st => match S.1[o]?, am_ft a b with
      | some (.inr (ci, _)), some (t, f) => if ci = a ∧ f = false then (match am_fk t with
        | 0 => some (pc + len, ls, st, S.1, am_wi S.2.1 (o + 1) b x, S.2.2)
        | 3 => if am_fs x = true then some (pc + len, ls, st, S.1, am_wi S.2.1 (o + 1) b x, S.2.2) else none
        | _ => none) else none
      | _, _ => none
    | .long x :: .ref (o + 1) :: st => match S.1[o]?, am_ft a b with
      | some (.inr (ci, _)), some (t, f) => if ci = a ∧ f = false then (match am_fk t with
        | 1 => some (pc + len, ls, st, S.1, S.2.1, am_wl S.2.2 (o + 1) b x)
        | _ => none) else none
      | _, _ => none
    | .ref k :: .ref (o + 1) :: st => match S.1[o]?, am_ft a b with
      | some (.inr (ci, rs)), some (t, f) => if ci = a ∧ f = true ∧ b < rs.length ∧ (am_y j).name = "<init>" ∧ (am_cl[a]?.map (fun q => (q.2.1 b).1)) = some (am_y j).cls then (match am_fk t with
        | 2 => some (pc + len, ls, st, S.1.set o (.inr (ci, rs.set b (some k))), S.2)
        | _ => none) else none
      | _, _ => none
    | _ => none
  | _ => none
def am_ix (i : Int32) (n : Nat) : Bool := !(decide (i < 0) || decide (n ≤ i.toNatClampNeg))
/-- arrays -/
def am_sH (X : aX) (i : Instr) (pc len : Nat) (ls st : List Value) (S : aSt) : aO :=
  match i with
  | .arraylength => match st with
    | .ref 0 :: st => some (pc + len, ls, .int (Int32.ofNat X.1) :: st, S)
    | _ => none
  | .iaload => match st with
    | .int i :: .ref 0 :: st => if am_ix i X.1 = true then some (pc + len, ls, .int (X.2 i.toNatClampNeg) :: st, S) else none
    | .int i :: .ref (o + 1) :: st => match S.1[o]? with
      | some (.inl (false, n)) => if am_ix i n = true then some (pc + len, ls, .int (S.2.1 (o + 1) i.toNatClampNeg) :: st, S) else none
      | _ => none
    | _ => none
  | .baload => match st with
    | .int i :: .ref (o + 1) :: st => match S.1[o]? with
      | some (.inl (true, n)) => if am_ix i n = true then some (pc + len, ls, .int (S.2.1 (o + 1) i.toNatClampNeg) :: st, S) else none
      | _ => none
    | _ => none
  | .iastore => match st with
    | .int x :: .int i :: .ref (o + 1) :: st => match S.1[o]? with
      | some (.inl (false, n)) => if am_ix i n = true then some (pc + len, ls, st, S.1, am_wi S.2.1 (o + 1) i.toNatClampNeg x, S.2.2) else none
      | _ => none
    | _ => none
  | .bastore => match st with
    | .int x :: .int i :: .ref (o + 1) :: st => match S.1[o]? with
      | some (.inl (true, n)) => if am_ix i n = true ∧ am_fs x = true then some (pc + len, ls, st, S.1, am_wi S.2.1 (o + 1) i.toNatClampNeg x, S.2.2) else none
      | _ => none
    | _ => none
  | _ => none
/-- making; and Object's own constructor -/
noncomputable def am_sN (j : Nat) (i : Instr) (a b : Nat) (pc len : Nat) (ls st : List Value) (S : aSt) : aO :=
  match i with
  | .new _ => match am_cl[a]? with
    | some q => some (pc + len, ls, .ref (S.1.length + 1) :: st, S.1 ++ [.inr (a, List.replicate q.2.2 none)], am_zi S.2.1 (S.1.length + 1), am_zl S.2.2 (S.1.length + 1))
    | none => none
  | .newarray t => match st with
    | .int n :: st => if n < 0 ∨ 4096 < n.toNatClampNeg then none else match t with
      | .int => some (pc + len, ls, .ref (S.1.length + 1) :: st, S.1 ++ [.inl (false, n.toNatClampNeg)], am_zi S.2.1 (S.1.length + 1), am_zl S.2.2 (S.1.length + 1))
      | .boolean => some (pc + len, ls, .ref (S.1.length + 1) :: st, S.1 ++ [.inl (true, n.toNatClampNeg)], am_zi S.2.1 (S.1.length + 1), am_zl S.2.2 (S.1.length + 1))
      | _ => none
    | _ => none
  | .invokespecial _ => match st with
    | .ref _ :: st => if b = 2 ∧ 1 ≤ am_fr j ∧ (st.map fun v => v.category).sum + 12 ≤ am_lo j then some (pc + len, ls, st, S) else none
    | _ => none
  | .invokestatic _ => match st with
    | .int y :: .int x :: st => if b = 0 ∧ 1 ≤ am_fr j ∧ (st.map fun v => v.category).sum + 13 ≤ am_lo j then (if a = 179 then some (pc + len, ls, .int (if x < y then y else x) :: st, S) else if a = 180 then some (pc + len, ls, .int (if y < x then y else x) :: st, S) else none) else none
    | _ => none
  | _ => none
noncomputable def am_step (X : aX) (j : Nat) (I : aI) (pc : Nat) (ls st : List Value) (S : aSt) : aO :=
  match am_sA I.1 I.2.2.2.2.2 pc I.2.1 ls st S with
  | some r => some r
  | none => match am_sB I.1 pc I.2.1 ls st S with
    | some r => some r
    | none => match am_sC I.1 pc I.2.1 ls st S with
      | some r => some r
      | none => match am_sD I.1 pc I.2.1 ls st S with
        | some r => some r
        | none => match am_sE I.1 pc I.2.1 ls st S with
          | some r => some r
          | none => match am_sF I.1 pc I.2.1 ls st S with
            | some r => some r
            | none => match am_sG j I.1 I.2.2.1 I.2.2.2.1 pc I.2.1 ls st S with
              | some r => some r
              | none => match am_sH X I.1 pc I.2.1 ls st S with
                | some r => some r
                | none => am_sN j I.1 I.2.2.1 I.2.2.2.1 pc I.2.1 ls st S
/-- the operands as arguments: n of them, the last on top -/
def am_pop : Nat → List Value → List Value → Option (List Value × List Value)
  | 0, acc, st => some (acc, st)
  | n + 1, acc, v :: st => am_pop n (v :: acc) st
  | _ + 1, _, [] => none
def am_sl : List Value → List Value
  | [] => []
  | v :: vs => if v.category = 2 then v :: .null :: am_sl vs else v :: am_sl vs
def am_en (As : List Value) (n : Nat) : List Value := am_sl As ++ List.replicate (n - (am_sl As).length) .null
/-- the receiver is an object of that class -/
def am_rc (As : List Value) (sh : List aSh) (C : String) : Bool := match As with
  | .ref (o + 1) :: _ => (match sh[o]? with
    | some (.inr (ci, _)) => (match am_cl[ci]? with
      | some q => decide (q.1 = C)
      | none => false)
    | _ => false)
  | _ => false
def am_opk (i : Instr) (d b np : Nat) (st : List Value) : Option (List Value × List Value) := match i with
  | .invokestatic _ => if d = 0 ∧ b < 2 then am_pop np [] st else none
  | .invokevirtual _ => if d = 1 ∧ b = 0 then am_pop (np + 1) [] st else none
  | .invokespecial _ => if d = 2 ∧ b < 2 then am_pop (np + 1) [] st else none
  | _ => none
/-- a call of another method of the tables: its number, its arguments, what stays of the operand stack -/
noncomputable def am_call (j : Nat) (I : aI) (st : List Value) (S : aSt) : Option (Nat × List Value × List Value) :=
  match I with
  | (i, _, k, b, _, _) => match am_opk i (am_kd k) b (am_np k) st with
    | some (As, rest) => if 0 < k ∧ k < 179 ∧ am_fr k + 1 ≤ am_fr j ∧ 8 + (am_L k + 11) + am_lo k ≤ am_lo j ∧ (rest.map fun v => v.category).sum ≤ 8 ∧ (am_sl As).length ≤ am_L k ∧ (am_kd k = 0 ∨ am_rc As S.1 (am_y k).cls = true) then some (k, As, rest) else none
    | none => none
/-- a method's end: its answer -/
noncomputable def am_ret (j : Nat) (i : Instr) (st : List Value) : Option (Option Value) :=
  match i, am_r j, st with
  | .ireturn, some .int, [.int v] => some (some (.int v))
  | .ireturn, some .boolean, [.int v] => if am_fs v = true then some (some (.int v)) else none
  | .lreturn, some .long, [.long v] => some (some (.long v))
  | .areturn, some (.object _), [.ref v] => some (some (.ref v))
  | .return_, none, [] => some none
  | _, _, _ => none
noncomputable def am_ev (X : aX) : Nat → Nat → Nat → List Value → List Value → aSt → Option (Option Value × aSt)
  | 0, _, _, _, _, _ => none
  | n + 1, j, pc, ls, st, S => match am_in j pc with
    | none => none
    | some I => match am_call j I st S with
      | some (k, As, rest) => match am_ev X n k 0 (am_en As (am_L k)) [] S with
        | some (r, S') => am_ev X n j (pc + 3) ls (r.toList ++ rest) S'
        | none => none
      | none => match am_ret j I.1 st with
        | some r => some (r, S)
        | none => match am_step X j I pc ls st S with
          | some (pc', ls', st', S') => am_ev X n j pc' ls' st' S'
          | none => none
