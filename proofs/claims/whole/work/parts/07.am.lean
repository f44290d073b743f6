/-! THE SMALL MACHINE: an evaluator of the claim's own bytecode over a heap of numbered cells; its soundness comes in the parts behind -/
abbrev aSh : Type := (Bool × Nat) ⊕ (Nat × List (Option Nat))
abbrev aMem : Type := (Nat → Nat → Int32) × (Nat → Nat → Int64)
abbrev aSt : Type := List aSh × aMem
abbrev aX : Type := Nat × (Nat → Int32)
abbrev aO : Type := Option (Nat × List Value × List Value × aSt)
def am_wi (m : Nat → Nat → Int32) (o k : Nat) (x : Int32) : Nat → Nat → Int32 := fun q => if q = o then upd (m o) k x else m q
def am_wl (m : Nat → Nat → Int64) (o k : Nat) (x : Int64) : Nat → Nat → Int64 := fun q => if q = o then vp_updL (m o) k x else m q
def am_zi (m : Nat → Nat → Int32) (o : Nat) : Nat → Nat → Int32 := fun q => if q = o then (fun _ => 0) else m q
def am_zl (m : Nat → Nat → Int64) (o : Nat) : Nat → Nat → Int64 := fun q => if q = o then (fun _ => 0) else m q
def am_tg (pc : Nat) (off : Int) : Option Nat := if 0 ≤ (pc : Int) + off then some ((pc : Int) + off).toNat else none
/-- the field's type: 0 whole number or truth, 1 long, 2 reference -/
def am_fk (t : FieldType) : Nat := match t with
  | .int => 0
  | .boolean => 3
  | .long => 1
  | .object _ => 2
  | .array _ => 2
  | _ => 9
noncomputable def am_ft (ci k : Nat) : Option (FieldType × Bool) := match am_cl[ci]?, am_ct[ci]? with
  | some q, some t => if k < q.2.2 then some (t k, (q.2.1 k).2.2.2) else none
  | _, _ => none
/-- constants and loads -/
def am_sA (i : Instr) (k : Int) (pc len : Nat) (ls st : List Value) (S : aSt) : aO :=
  match i with
  | .iconst n => some (pc + len, ls, .int (Int32.ofInt n) :: st, S)
  | .bipush n => some (pc + len, ls, .int (Int8.ofInt n).toInt32 :: st, S)
  | .sipush n => some (pc + len, ls, .int (Int16.ofInt n).toInt32 :: st, S)
  | .lconst n => some (pc + len, ls, .long (Int64.ofNat (n : Nat)) :: st, S)
  | .ldc _ => some (pc + len, ls, .int (Int32.ofInt k) :: st, S)
  | .ldc_w _ => some (pc + len, ls, .int (Int32.ofInt k) :: st, S)
  | .ldc2_w _ => some (pc + len, ls, .long (Int64.ofInt k) :: st, S)
  | .iload i => match ls[i]? with
    | some (.int x) => some (pc + len, ls, .int x :: st, S)
    | _ => none
  | .iload_n i => match ls[(i : Nat)]? with
    | some (.int x) => some (pc + len, ls, .int x :: st, S)
    | _ => none
  | .lload i => match ls[i]? with
    | some (.long x) => some (pc + len, ls, .long x :: st, S)
    | _ => none
  | .lload_n i => match ls[(i : Nat)]? with
    | some (.long x) => some (pc + len, ls, .long x :: st, S)
    | _ => none
  | .aload i => match ls[i]? with
    | some (.ref x) => some (pc + len, ls, .ref x :: st, S)
    | _ => none
  | .aload_n i => match ls[(i : Nat)]? with
    | some (.ref x) => some (pc + len, ls, .ref x :: st, S)
    | _ => none
  | _ => none
def am_pre (ls : List Value) (i : Nat) : Bool := match i with
  | 0 => true
  | i + 1 => match ls[i]? with
    | some v => v.category != 2
    | none => true
def am_s1 (ls : List Value) (i : Nat) (v : Value) : Option (List Value) := if i < ls.length ∧ am_pre ls i = true then some (ls.set i v) else none
def am_s2 (ls : List Value) (i : Nat) (v : Value) : Option (List Value) := if i + 1 < ls.length ∧ am_pre ls i = true then some ((ls.set i v).set (i + 1) .null) else none
/-- stores -/
def am_sB (i : Instr) (pc len : Nat) (ls st : List Value) (S : aSt) : aO :=
  match i with
  | .istore i => match st with
    | .int x :: st => (am_s1 ls i (.int x)).map fun l => (pc + len, l, st, S)
    | _ => none
  | .istore_n i => match st with
    | .int x :: st => (am_s1 ls i (.int x)).map fun l => (pc + len, l, st, S)
    | _ => none
  | .astore_n i => match st with
    | .ref x :: st => (am_s1 ls i (.ref x)).map fun l => (pc + len, l, st, S)
    | _ => none
  | .lstore i => match st with
    | .long x :: st => (am_s2 ls i (.long x)).map fun l => (pc + len, l, st, S)
    | _ => none
  | .lstore_n i => match st with
    | .long x :: st => (am_s2 ls i (.long x)).map fun l => (pc + len, l, st, S)
    | _ => none
  | .iinc i n => match ls[i]? with
    | some (.int x) => (am_s1 ls i (.int (x + Int32.ofInt n))).map fun l => (pc + len, l, st, S)
    | _ => none
  | _ => none
/-- whole numbers -/
def am_i2 (pc len : Nat) (ls st : List Value) (S : aSt) (f : Int32 → Int32 → Int32) : aO := match st with
  | .int y :: .int x :: st => some (pc + len, ls, .int (f x y) :: st, S)
  | _ => none
def am_l2 (pc len : Nat) (ls st : List Value) (S : aSt) (f : Int64 → Int64 → Int64) : aO := match st with
  | .long y :: .long x :: st => some (pc + len, ls, .long (f x y) :: st, S)
  | _ => none
def am_sC (i : Instr) (pc len : Nat) (ls st : List Value) (S : aSt) : aO :=
  match i with
  | .iadd => am_i2 pc len ls st S (fun x y => x + y)
  | .isub => am_i2 pc len ls st S (fun x y => x - y)
  | .imul => am_i2 pc len ls st S (fun x y => x * y)
  | .iand => am_i2 pc len ls st S (fun x y => x &&& y)
  | .ior => am_i2 pc len ls st S (fun x y => x ||| y)
  | .ixor => am_i2 pc len ls st S (fun x y => x ^^^ y)
  | .ishl => am_i2 pc len ls st S (fun x y => x <<< (y &&& 31))
  | .ishr => am_i2 pc len ls st S (fun x y => x >>> (y &&& 31))
  | .iushr => am_i2 pc len ls st S (fun x y => (x.toUInt32 >>> (y.toUInt32 &&& Int32.toUInt32 31)).toInt32)
  | .idiv => match st with
    | .int y :: .int x :: st => if y = 0 then none else some (pc + len, ls, .int (x / y) :: st, S)
    | _ => none
  | .irem => match st with
    | .int y :: .int x :: st => if y = 0 then none else some (pc + len, ls, .int (x - x / y * y) :: st, S)
    | _ => none
  | _ => none
/-- longs -/
def am_sD (i : Instr) (pc len : Nat) (ls st : List Value) (S : aSt) : aO :=
  match i with
  | .ladd => am_l2 pc len ls st S (fun x y => x + y)
  | .lsub => am_l2 pc len ls st S (fun x y => x - y)
  | .lmul => am_l2 pc len ls st S (fun x y => x * y)
  | .land => am_l2 pc len ls st S (fun x y => x &&& y)
  | .lor => am_l2 pc len ls st S (fun x y => x ||| y)
  | .ldiv => match st with
    | .long y :: .long x :: st => if y = 0 then none else some (pc + len, ls, .long (x / y) :: st, S)
    | _ => none
  | .lrem => match st with
    | .long y :: .long x :: st => if y = 0 then none else some (pc + len, ls, .long (x - x / y * y) :: st, S)
    | _ => none
  | .lcmp => match st with
    | .long y :: .long x :: st => some (pc + len, ls, .int (lg_cmp x y) :: st, S)
    | _ => none
  | .lshl => match st with
    | .int y :: .long x :: st => some (pc + len, ls, .long (x <<< (y.toInt64 &&& 63)) :: st, S)
    | _ => none
  | .lshr => match st with
    | .int y :: .long x :: st => some (pc + len, ls, .long (x >>> (y.toInt64 &&& 63)) :: st, S)
    | _ => none
  | _ => none
/-- conversions and the operand stack -/
def am_sE (i : Instr) (pc len : Nat) (ls st : List Value) (S : aSt) : aO :=
  match i with
  | .i2l => match st with
    | .int x :: st => some (pc + len, ls, .long x.toInt64 :: st, S)
    | _ => none
  | .l2i => match st with
    | .long x :: st => some (pc + len, ls, .int x.toInt32 :: st, S)
    | _ => none
  | .dup => match st with
    | v :: st => if v.category = 1 then some (pc + len, ls, v :: v :: st, S) else none
    | _ => none
  | .pop => match st with
    | v :: st => if v.category = 1 then some (pc + len, ls, st, S) else none
    | _ => none
  | .dup2 => match st with
    | v :: w :: st => if v.category = 1 ∧ w.category = 1 then some (pc + len, ls, v :: w :: v :: w :: st, S) else none
    | _ => none
  | _ => none
def am_j (t : Option Nat) (ls st : List Value) (S : aSt) : aO := t.map fun t => (t, ls, st, S)
def am_c1 (c : Jvm.ClassFile.Cond) (x : Int32) : Bool := match c with
  | .eq => decide (x = 0)
  | .ne => decide (¬ x = 0)
  | .lt => decide (x < 0)
  | .ge => decide (0 ≤ x)
  | .gt => decide (0 < x)
  | .le => decide (x ≤ 0)
def am_c2 (c : Jvm.ClassFile.Cond) (x y : Int32) : Bool := match c with
  | .eq => decide (x = y)
  | .ne => decide (¬ x = y)
  | .lt => decide (x < y)
  | .ge => decide (y ≤ x)
  | .gt => decide (y < x)
  | .le => decide (x ≤ y)
/-- jumps -/
def am_sF (i : Instr) (pc len : Nat) (ls st : List Value) (S : aSt) : aO :=
  match i with
  | .goto o => am_j (am_tg pc o) ls st S
  | .ifCond c o => match st, am_tg pc o with
    | .int x :: st, some t => if am_c1 c x = true then some (t, ls, st, S) else some (pc + len, ls, st, S)
    | _, _ => none
  | .if_icmp c o => match st, am_tg pc o with
    | .int y :: .int x :: st, some t => if am_c2 c x y = true then some (t, ls, st, S) else some (pc + len, ls, st, S)
    | _, _ => none
  | .tableswitch d lo hi offs => match st with
    | .int x :: st => if x.toInt < lo ∨ hi < x.toInt then am_j (am_tg pc d) ls st S else match offs[(x.toInt - lo).toNat]? with
      | some o => am_j (am_tg pc o) ls st S
      | none => none
    | _ => none
  | .lookupswitch d ps => match st with
    | .int x :: st => if (ps.toList.zip (ps.toList.drop 1)).all (fun (a, next) => a.1 < next.1) = true then am_j (am_tg pc (Op.lookupswitch.offset ps.toList d x.toInt)) ls st S else none
    | _ => none
  | _ => none
def am_fs (x : Int32) : Bool := decide (x = 0) || decide (x = 1)
/-- fields: a the number of the class, b the slot -/
noncomputable def am_sG (j : Nat) (i : Instr) (a b : Nat) (pc len : Nat) (ls st : List Value) (S : aSt) : aO :=
  match i with
  | .getfield _ => match st with
    | .ref (o + 1) :: st => match S.1[o]?, am_ft a b with
      | some (.inr (ci, rs)), some (t, _) => if ci = a then (match am_fk t with
        | 0 => some (pc + len, ls, .int (S.2.1 (o + 1) b) :: st, S)
        | 3 => some (pc + len, ls, .int (S.2.1 (o + 1) b) :: st, S)
        | 1 => some (pc + len, ls, .long (S.2.2 (o + 1) b) :: st, S)
        | 2 => match rs[b]? with
          | some (some k) => some (pc + len, ls, .ref k :: st, S)
          | _ => none
        | _ => none) else none
      | _, _ => none
    | _ => none
  | .putfield _ => match st with
    | .int x :: .ref (o + 1) :: st => match S.1[o]?, am_ft a b with
      | some (.inr (ci, _)), some (t, f) => if ci = a ∧ f = false then (match am_fk t with
        | 0 => some (pc + len, ls, st, S.1, am_wi S.2.1 (o + 1) b x, S.2.2)
        | 3 => if am_fs x = true then some (pc + len, ls, st, S.1, am_wi S.2.1 (o + 1) b x, S.2.2) else none
        | _ => none) else none
      | _, _ => none
    | .long x :: .ref (o + 1) :: st => match S.1[o]?, am_ft a b with
      | some (.inr (ci, _)), some (t, f) => if ci = a ∧ f = false then (match am_fk t with
        | 1 => some (pc + len, ls, st, S.1, S.2.1, am_wl S.2.2 (o + 1) b x)
        | _ => none) else none
      | _, _ => none
    | .ref k :: .ref (o + 1) :: st => match S.1[o]?, am_ft a b with
      | some (.inr (ci, rs)), some (t, f) => if ci = a ∧ f = true ∧ b < rs.length ∧ (am_y j).name = "<init>" ∧ (am_cl[a]?.map (fun q => (q.2.1 b).1)) = some (am_y j).cls then (match am_fk t with
        | 2 => some (pc + len, ls, st, S.1.set o (.inr (ci, rs.set b (some k))), S.2)
        | _ => none) else none
      | _, _ => none
    | _ => none
  | _ => none
def am_ix (i : Int32) (n : Nat) : Bool := !(decide (i < 0) || decide (n ≤ i.toNatClampNeg))
/-- arrays -/
def am_sH (X : aX) (f : Bool) (i : Instr) (pc len : Nat) (ls st : List Value) (S : aSt) : aO :=
  match i with
  | .arraylength => match st with
    | .ref 0 :: st => if f = true then some (pc + len, ls, .int (Int32.ofNat X.1) :: st, S) else none
    | _ => none
  | .iaload => match st with
    | .int i :: .ref 0 :: st => if f = true ∧ am_ix i X.1 = true then some (pc + len, ls, .int (X.2 i.toNatClampNeg) :: st, S) else none
    | .int i :: .ref (o + 1) :: st => match S.1[o]? with
      | some (.inl (false, n)) => if am_ix i n = true then some (pc + len, ls, .int (S.2.1 (o + 1) i.toNatClampNeg) :: st, S) else none
      | _ => none
    | _ => none
  | .baload => match st with
    | .int i :: .ref (o + 1) :: st => match S.1[o]? with
      | some (.inl (true, n)) => if am_ix i n = true then some (pc + len, ls, .int (S.2.1 (o + 1) i.toNatClampNeg) :: st, S) else none
      | _ => none
    | _ => none
  | .iastore => match st with
    | .int x :: .int i :: .ref (o + 1) :: st => match S.1[o]? with
      | some (.inl (false, n)) => if am_ix i n = true then some (pc + len, ls, st, S.1, am_wi S.2.1 (o + 1) i.toNatClampNeg x, S.2.2) else none
      | _ => none
    | _ => none
  | .bastore => match st with
    | .int x :: .int i :: .ref (o + 1) :: st => match S.1[o]? with
      | some (.inl (true, n)) => if am_ix i n = true ∧ am_fs x = true then some (pc + len, ls, st, S.1, am_wi S.2.1 (o + 1) i.toNatClampNeg x, S.2.2) else none
      | _ => none
    | _ => none
  | _ => none
/-- making; and Object's own constructor -/
noncomputable def am_sN (j : Nat) (i : Instr) (a b : Nat) (pc len : Nat) (ls st : List Value) (S : aSt) : aO :=
  match i with
  | .new _ => match am_cl[a]? with
    | some q => some (pc + len, ls, .ref (S.1.length + 1) :: st, S.1 ++ [.inr (a, List.replicate q.2.2 none)], am_zi S.2.1 (S.1.length + 1), am_zl S.2.2 (S.1.length + 1))
    | none => none
  | .newarray t => match st with
    | .int n :: st => if n < 0 ∨ 4096 < n.toNatClampNeg then none else match t with
      | .int => some (pc + len, ls, .ref (S.1.length + 1) :: st, S.1 ++ [.inl (false, n.toNatClampNeg)], am_zi S.2.1 (S.1.length + 1), am_zl S.2.2 (S.1.length + 1))
      | .boolean => some (pc + len, ls, .ref (S.1.length + 1) :: st, S.1 ++ [.inl (true, n.toNatClampNeg)], am_zi S.2.1 (S.1.length + 1), am_zl S.2.2 (S.1.length + 1))
      | _ => none
    | _ => none
  | .invokespecial _ => match st with
    | .ref _ :: st => if b = 2 ∧ 1 ≤ am_fr j ∧ (st.map fun v => v.category).sum + 12 ≤ am_lo j then some (pc + len, ls, st, S) else none
    | _ => none
  | .invokestatic _ => match st with
    | .int y :: .int x :: st => if b = 0 ∧ 1 ≤ am_fr j ∧ (st.map fun v => v.category).sum + 13 ≤ am_lo j then (if a = 179 then some (pc + len, ls, .int (if x < y then y else x) :: st, S) else if a = 180 then some (pc + len, ls, .int (if y < x then y else x) :: st, S) else none) else none
    | _ => none
  | _ => none
noncomputable def am_step (X : aX) (j : Nat) (I : aI) (pc : Nat) (ls st : List Value) (S : aSt) : aO :=
  match am_sA I.1 I.2.2.2.2.2 pc I.2.1 ls st S with
  | some r => some r
  | none => match am_sB I.1 pc I.2.1 ls st S with
    | some r => some r
    | none => match am_sC I.1 pc I.2.1 ls st S with
      | some r => some r
      | none => match am_sD I.1 pc I.2.1 ls st S with
        | some r => some r
        | none => match am_sE I.1 pc I.2.1 ls st S with
          | some r => some r
          | none => match am_sF I.1 pc I.2.1 ls st S with
            | some r => some r
            | none => match am_sG j I.1 I.2.2.1 I.2.2.2.1 pc I.2.1 ls st S with
              | some r => some r
              | none => match am_sH X (Nat.beq j 0) I.1 pc I.2.1 ls st S with
                | some r => some r
                | none => am_sN j I.1 I.2.2.1 I.2.2.2.1 pc I.2.1 ls st S
/-- the operands as arguments: n of them, the last on top -/
def am_pop : Nat → List Value → List Value → Option (List Value × List Value)
  | 0, acc, st => some (acc, st)
  | n + 1, acc, v :: st => am_pop n (v :: acc) st
  | _ + 1, _, [] => none
def am_sl : List Value → List Value
  | [] => []
  | v :: vs => if v.category = 2 then v :: .null :: am_sl vs else v :: am_sl vs
def am_en (As : List Value) (n : Nat) : List Value := am_sl As ++ List.replicate (n - (am_sl As).length) .null
/-- the number of a method's class -/
noncomputable def am_kc (j : Nat) : Nat := (cond (Nat.blt j 90) (cond (Nat.blt j 45) (cond (Nat.blt j 22) (cond (Nat.blt j 11) (cond (Nat.blt j 5) (cond (Nat.blt j 2) (cond (Nat.blt j 1) (cond (Nat.beq j 0) (99) 99) (cond (Nat.beq j 1) (0) 99)) (cond (Nat.blt j 3) (cond (Nat.beq j 2) (0) 99) (cond (Nat.blt j 4) (cond (Nat.beq j 3) (0) 99) (cond (Nat.beq j 4) (0) 99)))) (cond (Nat.blt j 8) (cond (Nat.blt j 6) (cond (Nat.beq j 5) (99) 99) (cond (Nat.blt j 7) (cond (Nat.beq j 6) (1) 99) (cond (Nat.beq j 7) (1) 99))) (cond (Nat.blt j 9) (cond (Nat.beq j 8) (1) 99) (cond (Nat.blt j 10) (cond (Nat.beq j 9) (99) 99) (cond (Nat.beq j 10) (2) 99))))) (cond (Nat.blt j 16) (cond (Nat.blt j 13) (cond (Nat.blt j 12) (cond (Nat.beq j 11) (2) 99) (cond (Nat.beq j 12) (99) 99)) (cond (Nat.blt j 14) (cond (Nat.beq j 13) (99) 99) (cond (Nat.blt j 15) (cond (Nat.beq j 14) (99) 99) (cond (Nat.beq j 15) (99) 99)))) (cond (Nat.blt j 19) (cond (Nat.blt j 17) (cond (Nat.beq j 16) (3) 99) (cond (Nat.blt j 18) (cond (Nat.beq j 17) (3) 99) (cond (Nat.beq j 18) (3) 99))) (cond (Nat.blt j 20) (cond (Nat.beq j 19) (3) 99) (cond (Nat.blt j 21) (cond (Nat.beq j 20) (3) 99) (cond (Nat.beq j 21) (3) 99)))))) (cond (Nat.blt j 33) (cond (Nat.blt j 27) (cond (Nat.blt j 24) (cond (Nat.blt j 23) (cond (Nat.beq j 22) (3) 99) (cond (Nat.beq j 23) (99) 99)) (cond (Nat.blt j 25) (cond (Nat.beq j 24) (99) 99) (cond (Nat.blt j 26) (cond (Nat.beq j 25) (4) 99) (cond (Nat.beq j 26) (4) 99)))) (cond (Nat.blt j 30) (cond (Nat.blt j 28) (cond (Nat.beq j 27) (4) 99) (cond (Nat.blt j 29) (cond (Nat.beq j 28) (4) 99) (cond (Nat.beq j 29) (4) 99))) (cond (Nat.blt j 31) (cond (Nat.beq j 30) (4) 99) (cond (Nat.blt j 32) (cond (Nat.beq j 31) (4) 99) (cond (Nat.beq j 32) (4) 99))))) (cond (Nat.blt j 39) (cond (Nat.blt j 36) (cond (Nat.blt j 34) (cond (Nat.beq j 33) (4) 99) (cond (Nat.blt j 35) (cond (Nat.beq j 34) (5) 99) (cond (Nat.beq j 35) (5) 99))) (cond (Nat.blt j 37) (cond (Nat.beq j 36) (5) 99) (cond (Nat.blt j 38) (cond (Nat.beq j 37) (5) 99) (cond (Nat.beq j 38) (5) 99)))) (cond (Nat.blt j 42) (cond (Nat.blt j 40) (cond (Nat.beq j 39) (6) 99) (cond (Nat.blt j 41) (cond (Nat.beq j 40) (6) 99) (cond (Nat.beq j 41) (6) 99))) (cond (Nat.blt j 43) (cond (Nat.beq j 42) (6) 99) (cond (Nat.blt j 44) (cond (Nat.beq j 43) (6) 99) (cond (Nat.beq j 44) (7) 99))))))) (cond (Nat.blt j 67) (cond (Nat.blt j 56) (cond (Nat.blt j 50) (cond (Nat.blt j 47) (cond (Nat.blt j 46) (cond (Nat.beq j 45) (7) 99) (cond (Nat.beq j 46) (7) 99)) (cond (Nat.blt j 48) (cond (Nat.beq j 47) (7) 99) (cond (Nat.blt j 49) (cond (Nat.beq j 48) (8) 99) (cond (Nat.beq j 49) (8) 99)))) (cond (Nat.blt j 53) (cond (Nat.blt j 51) (cond (Nat.beq j 50) (8) 99) (cond (Nat.blt j 52) (cond (Nat.beq j 51) (8) 99) (cond (Nat.beq j 52) (8) 99))) (cond (Nat.blt j 54) (cond (Nat.beq j 53) (8) 99) (cond (Nat.blt j 55) (cond (Nat.beq j 54) (8) 99) (cond (Nat.beq j 55) (8) 99))))) (cond (Nat.blt j 61) (cond (Nat.blt j 58) (cond (Nat.blt j 57) (cond (Nat.beq j 56) (8) 99) (cond (Nat.beq j 57) (8) 99)) (cond (Nat.blt j 59) (cond (Nat.beq j 58) (8) 99) (cond (Nat.blt j 60) (cond (Nat.beq j 59) (8) 99) (cond (Nat.beq j 60) (8) 99)))) (cond (Nat.blt j 64) (cond (Nat.blt j 62) (cond (Nat.beq j 61) (8) 99) (cond (Nat.blt j 63) (cond (Nat.beq j 62) (8) 99) (cond (Nat.beq j 63) (8) 99))) (cond (Nat.blt j 65) (cond (Nat.beq j 64) (8) 99) (cond (Nat.blt j 66) (cond (Nat.beq j 65) (99) 99) (cond (Nat.beq j 66) (8) 99)))))) (cond (Nat.blt j 78) (cond (Nat.blt j 72) (cond (Nat.blt j 69) (cond (Nat.blt j 68) (cond (Nat.beq j 67) (99) 99) (cond (Nat.beq j 68) (99) 99)) (cond (Nat.blt j 70) (cond (Nat.beq j 69) (99) 99) (cond (Nat.blt j 71) (cond (Nat.beq j 70) (8) 99) (cond (Nat.beq j 71) (9) 99)))) (cond (Nat.blt j 75) (cond (Nat.blt j 73) (cond (Nat.beq j 72) (9) 99) (cond (Nat.blt j 74) (cond (Nat.beq j 73) (9) 99) (cond (Nat.beq j 74) (9) 99))) (cond (Nat.blt j 76) (cond (Nat.beq j 75) (10) 99) (cond (Nat.blt j 77) (cond (Nat.beq j 76) (10) 99) (cond (Nat.beq j 77) (10) 99))))) (cond (Nat.blt j 84) (cond (Nat.blt j 81) (cond (Nat.blt j 79) (cond (Nat.beq j 78) (10) 99) (cond (Nat.blt j 80) (cond (Nat.beq j 79) (10) 99) (cond (Nat.beq j 80) (10) 99))) (cond (Nat.blt j 82) (cond (Nat.beq j 81) (10) 99) (cond (Nat.blt j 83) (cond (Nat.beq j 82) (10) 99) (cond (Nat.beq j 83) (10) 99)))) (cond (Nat.blt j 87) (cond (Nat.blt j 85) (cond (Nat.beq j 84) (10) 99) (cond (Nat.blt j 86) (cond (Nat.beq j 85) (10) 99) (cond (Nat.beq j 86) (10) 99))) (cond (Nat.blt j 88) (cond (Nat.beq j 87) (10) 99) (cond (Nat.blt j 89) (cond (Nat.beq j 88) (10) 99) (cond (Nat.beq j 89) (10) 99)))))))) (cond (Nat.blt j 135) (cond (Nat.blt j 112) (cond (Nat.blt j 101) (cond (Nat.blt j 95) (cond (Nat.blt j 92) (cond (Nat.blt j 91) (cond (Nat.beq j 90) (10) 99) (cond (Nat.beq j 91) (10) 99)) (cond (Nat.blt j 93) (cond (Nat.beq j 92) (10) 99) (cond (Nat.blt j 94) (cond (Nat.beq j 93) (10) 99) (cond (Nat.beq j 94) (10) 99)))) (cond (Nat.blt j 98) (cond (Nat.blt j 96) (cond (Nat.beq j 95) (10) 99) (cond (Nat.blt j 97) (cond (Nat.beq j 96) (10) 99) (cond (Nat.beq j 97) (10) 99))) (cond (Nat.blt j 99) (cond (Nat.beq j 98) (10) 99) (cond (Nat.blt j 100) (cond (Nat.beq j 99) (10) 99) (cond (Nat.beq j 100) (10) 99))))) (cond (Nat.blt j 106) (cond (Nat.blt j 103) (cond (Nat.blt j 102) (cond (Nat.beq j 101) (99) 99) (cond (Nat.beq j 102) (99) 99)) (cond (Nat.blt j 104) (cond (Nat.beq j 103) (99) 99) (cond (Nat.blt j 105) (cond (Nat.beq j 104) (11) 99) (cond (Nat.beq j 105) (99) 99)))) (cond (Nat.blt j 109) (cond (Nat.blt j 107) (cond (Nat.beq j 106) (99) 99) (cond (Nat.blt j 108) (cond (Nat.beq j 107) (99) 99) (cond (Nat.beq j 108) (99) 99))) (cond (Nat.blt j 110) (cond (Nat.beq j 109) (99) 99) (cond (Nat.blt j 111) (cond (Nat.beq j 110) (99) 99) (cond (Nat.beq j 111) (11) 99)))))) (cond (Nat.blt j 123) (cond (Nat.blt j 117) (cond (Nat.blt j 114) (cond (Nat.blt j 113) (cond (Nat.beq j 112) (11) 99) (cond (Nat.beq j 113) (11) 99)) (cond (Nat.blt j 115) (cond (Nat.beq j 114) (11) 99) (cond (Nat.blt j 116) (cond (Nat.beq j 115) (11) 99) (cond (Nat.beq j 116) (11) 99)))) (cond (Nat.blt j 120) (cond (Nat.blt j 118) (cond (Nat.beq j 117) (11) 99) (cond (Nat.blt j 119) (cond (Nat.beq j 118) (11) 99) (cond (Nat.beq j 119) (11) 99))) (cond (Nat.blt j 121) (cond (Nat.beq j 120) (11) 99) (cond (Nat.blt j 122) (cond (Nat.beq j 121) (11) 99) (cond (Nat.beq j 122) (11) 99))))) (cond (Nat.blt j 129) (cond (Nat.blt j 126) (cond (Nat.blt j 124) (cond (Nat.beq j 123) (11) 99) (cond (Nat.blt j 125) (cond (Nat.beq j 124) (11) 99) (cond (Nat.beq j 125) (11) 99))) (cond (Nat.blt j 127) (cond (Nat.beq j 126) (11) 99) (cond (Nat.blt j 128) (cond (Nat.beq j 127) (11) 99) (cond (Nat.beq j 128) (11) 99)))) (cond (Nat.blt j 132) (cond (Nat.blt j 130) (cond (Nat.beq j 129) (11) 99) (cond (Nat.blt j 131) (cond (Nat.beq j 130) (11) 99) (cond (Nat.beq j 131) (11) 99))) (cond (Nat.blt j 133) (cond (Nat.beq j 132) (11) 99) (cond (Nat.blt j 134) (cond (Nat.beq j 133) (11) 99) (cond (Nat.beq j 134) (11) 99))))))) (cond (Nat.blt j 158) (cond (Nat.blt j 146) (cond (Nat.blt j 140) (cond (Nat.blt j 137) (cond (Nat.blt j 136) (cond (Nat.beq j 135) (11) 99) (cond (Nat.beq j 136) (11) 99)) (cond (Nat.blt j 138) (cond (Nat.beq j 137) (11) 99) (cond (Nat.blt j 139) (cond (Nat.beq j 138) (11) 99) (cond (Nat.beq j 139) (11) 99)))) (cond (Nat.blt j 143) (cond (Nat.blt j 141) (cond (Nat.beq j 140) (11) 99) (cond (Nat.blt j 142) (cond (Nat.beq j 141) (11) 99) (cond (Nat.beq j 142) (11) 99))) (cond (Nat.blt j 144) (cond (Nat.beq j 143) (11) 99) (cond (Nat.blt j 145) (cond (Nat.beq j 144) (11) 99) (cond (Nat.beq j 145) (11) 99))))) (cond (Nat.blt j 152) (cond (Nat.blt j 149) (cond (Nat.blt j 147) (cond (Nat.beq j 146) (11) 99) (cond (Nat.blt j 148) (cond (Nat.beq j 147) (11) 99) (cond (Nat.beq j 148) (11) 99))) (cond (Nat.blt j 150) (cond (Nat.beq j 149) (11) 99) (cond (Nat.blt j 151) (cond (Nat.beq j 150) (11) 99) (cond (Nat.beq j 151) (11) 99)))) (cond (Nat.blt j 155) (cond (Nat.blt j 153) (cond (Nat.beq j 152) (11) 99) (cond (Nat.blt j 154) (cond (Nat.beq j 153) (11) 99) (cond (Nat.beq j 154) (11) 99))) (cond (Nat.blt j 156) (cond (Nat.beq j 155) (11) 99) (cond (Nat.blt j 157) (cond (Nat.beq j 156) (11) 99) (cond (Nat.beq j 157) (99) 99)))))) (cond (Nat.blt j 169) (cond (Nat.blt j 163) (cond (Nat.blt j 160) (cond (Nat.blt j 159) (cond (Nat.beq j 158) (11) 99) (cond (Nat.beq j 159) (11) 99)) (cond (Nat.blt j 161) (cond (Nat.beq j 160) (11) 99) (cond (Nat.blt j 162) (cond (Nat.beq j 161) (11) 99) (cond (Nat.beq j 162) (11) 99)))) (cond (Nat.blt j 166) (cond (Nat.blt j 164) (cond (Nat.beq j 163) (11) 99) (cond (Nat.blt j 165) (cond (Nat.beq j 164) (11) 99) (cond (Nat.beq j 165) (11) 99))) (cond (Nat.blt j 167) (cond (Nat.beq j 166) (99) 99) (cond (Nat.blt j 168) (cond (Nat.beq j 167) (99) 99) (cond (Nat.beq j 168) (11) 99))))) (cond (Nat.blt j 175) (cond (Nat.blt j 172) (cond (Nat.blt j 170) (cond (Nat.beq j 169) (11) 99) (cond (Nat.blt j 171) (cond (Nat.beq j 170) (11) 99) (cond (Nat.beq j 171) (11) 99))) (cond (Nat.blt j 173) (cond (Nat.beq j 172) (11) 99) (cond (Nat.blt j 174) (cond (Nat.beq j 173) (11) 99) (cond (Nat.beq j 174) (11) 99)))) (cond (Nat.blt j 178) (cond (Nat.blt j 176) (cond (Nat.beq j 175) (11) 99) (cond (Nat.blt j 177) (cond (Nat.beq j 176) (11) 99) (cond (Nat.beq j 177) (11) 99))) (cond (Nat.blt j 179) (cond (Nat.beq j 178) (99) 99) (cond (Nat.blt j 180) (cond (Nat.beq j 179) (99) 99) (cond (Nat.beq j 180) (99) 99)))))))))
/-- the receiver is an object of that class -/
def am_rc (As : List Value) (sh : List aSh) (k : Nat) : Bool := match As with
  | .ref (o + 1) :: _ => (match sh[o]? with
    | some (.inr (ci, _)) => Nat.beq ci k
    | _ => false)
  | _ => false
noncomputable def am_ckR (j : Nat) : Bool := Nat.beq (am_kd j) 0 || (match am_cl[am_kc j]? with
  | some q => decide (q.1 = (am_y j).cls)
  | none => false)
theorem am_ckr : (List.range' 1 178).all am_ckR = true := by decide +kernel
theorem am_ckR_all : ∀ j, 0 < j → j < 179 → am_ckR j = true := fun j h1 h2 => List.all_eq_true.mp am_ckr j (by simp; omega)
def am_opk (i : Instr) (d b np : Nat) (st : List Value) : Option (List Value × List Value) := match i with
  | .invokestatic _ => if d = 0 ∧ b < 2 then am_pop np [] st else none
  | .invokevirtual _ => if d = 1 ∧ b = 0 then am_pop (np + 1) [] st else none
  | .invokespecial _ => if d = 2 ∧ b < 2 then am_pop (np + 1) [] st else none
  | _ => none
/-- a call of another method of the tables: its number, its arguments, what stays of the operand stack -/
noncomputable def am_call (j : Nat) (I : aI) (st : List Value) (S : aSt) : Option (Nat × List Value × List Value) :=
  match I with
  | (i, _, k, b, _, _) => match am_opk i (am_kd k) b (am_np k) st with
    | some (As, rest) => if 0 < k ∧ k < 179 ∧ am_fr k + 1 ≤ am_fr j ∧ 8 + (am_L k + 11) + am_lo k ≤ am_lo j ∧ (rest.map fun v => v.category).sum ≤ 8 ∧ (am_sl As).length ≤ am_L k ∧ (am_kd k = 0 ∨ am_rc As S.1 (am_kc k) = true) then some (k, As, rest) else none
    | none => none
/-- a method's end: its answer -/
noncomputable def am_ret (j : Nat) (i : Instr) (st : List Value) : Option (Option Value) :=
  match i, am_r j, st with
  | .ireturn, some .int, [.int v] => some (some (.int v))
  | .ireturn, some .boolean, [.int v] => if am_fs v = true then some (some (.int v)) else none
  | .lreturn, some .long, [.long v] => some (some (.long v))
  | .areturn, some (.object _), [.ref v] => some (some (.ref v))
  | .return_, none, [] => some none
  | _, _, _ => none
noncomputable def am_ev (X : aX) : Nat → Nat → Nat → List Value → List Value → aSt → Option (Option Value × aSt)
  | 0, _, _, _, _, _ => none
  | n + 1, j, pc, ls, st, S => match am_in j pc with
    | none => none
    | some I => match am_call j I st S with
      | some (k, As, rest) => match am_ev X n k 0 (am_en As (am_L k)) [] S with
        | some (r, S') => am_ev X n j (pc + 3) ls (r.toList ++ rest) S'
        | none => none
      | none => match am_ret j I.1 st with
        | some r => some (r, S)
        | none => match am_step X j I pc ls st S with
          | some (pc', ls', st', S') => am_ev X n j pc' ls' st' S'
          | none => none
