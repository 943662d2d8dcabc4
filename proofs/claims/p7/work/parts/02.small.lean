/-! THE SMALL MACHINE: a method's bytecode run over a list of cells (cell k lies at the address base + k of the real heap), as a function. Its steps are the machine's own (part 03). -/
/-- a cell: its kind (0 .. 9 an object of that class of vwCl; 10 int[], 11 long[], 12 boolean[], 13 Rope[]), what it holds -/
abbrev zE : Type := Nat × List Value
abbrev zM : Type := List zE
abbrev zML : Type := List (Option Value)
/-- place, locals, stack, cells -/
abbrev zS : Type := Nat × zML × List Value × zM
abbrev zRes : Type := Option Value × zM
/-- the places of what lies below the base: the script, the two texts -/
def zBig : Nat := 1000000
def zcat (st : List Value) : Nat := (st.map fun v => v.category).sum
def ztgt (pc : Nat) (off : Int) : Option Nat := match (pc : Int) + off with
  | .ofNat n => some n
  | .negSucc _ => none
theorem ztgt_eq {pc t : Nat} {off : Int} (h : ztgt pc off = some t) : (pc : Int) + off = (t : Int) := by
  unfold ztgt at h
  split at h
  · rename_i n e
    cases h
    exact e
  · cases h
def zclr (ml : zML) : Nat → zML
  | 0 => ml
  | j + 1 => match ml[j]? with
    | some (some w) => if w.category = 2 then ml.set j none else ml
    | _ => ml
def zst (ml : zML) (i : Nat) (v : Value) : Option zML :=
  if v.category = 1 then (if i < ml.length then some ((zclr ml i).set i (some v)) else none)
  else (if i + 1 < ml.length then some (((zclr ml i).set i (some v)).set (i + 1) none) else none)
/-- what changes the stack alone: the instruction's length, the stack behind it -/
def zpure : Instr → List Value → Option (Nat × List Value)
  | .iconst n, st => some (1, .int (Int32.ofInt n) :: st)
  | .bipush n, st => some (2, .int (Int8.ofInt n).toInt32 :: st)
  | .sipush n, st => some (3, .int (Int16.ofInt n).toInt32 :: st)
  | .lconst n, st => some (1, .long (Int64.ofNat (n : Nat)) :: st)
  | .aconst_null, st => some (1, .null :: st)
  | .iadd, .int y :: .int x :: r => some (1, .int (x + y) :: r)
  | .isub, .int y :: .int x :: r => some (1, .int (x - y) :: r)
  | .imul, .int y :: .int x :: r => some (1, .int (x * y) :: r)
  | .idiv, .int y :: .int x :: r => if y = 0 then none else some (1, .int (x / y) :: r)
  | .irem, .int y :: .int x :: r => if y = 0 then none else some (1, .int (x - x / y * y) :: r)
  | .iand, .int y :: .int x :: r => some (1, .int (x &&& y) :: r)
  | .ior, .int y :: .int x :: r => some (1, .int (x ||| y) :: r)
  | .ishl, .int y :: .int x :: r => some (1, .int (x <<< (y &&& 31)) :: r)
  | .ishr, .int y :: .int x :: r => some (1, .int (x >>> (y &&& 31)) :: r)
  | .iushr, .int y :: .int x :: r => some (1, .int (x.toUInt32 >>> (y.toUInt32 &&& Int32.toUInt32 31)).toInt32 :: r)
  | .ladd, .long y :: .long x :: r => some (1, .long (x + y) :: r)
  | .lsub, .long y :: .long x :: r => some (1, .long (x - y) :: r)
  | .lmul, .long y :: .long x :: r => some (1, .long (x * y) :: r)
  | .ldiv, .long y :: .long x :: r => if y = 0 then none else some (1, .long (x / y) :: r)
  | .lrem, .long y :: .long x :: r => if y = 0 then none else some (1, .long (x - x / y * y) :: r)
  | .land, .long y :: .long x :: r => some (1, .long (x &&& y) :: r)
  | .lor, .long y :: .long x :: r => some (1, .long (x ||| y) :: r)
  | .lshl, .int y :: .long x :: r => some (1, .long (x <<< (y.toInt64 &&& 63)) :: r)
  | .lshr, .int y :: .long x :: r => some (1, .long (x >>> (y.toInt64 &&& 63)) :: r)
  | .lcmp, .long y :: .long x :: r => some (1, .int (lg_cmp x y) :: r)
  | .i2l, .int x :: r => some (1, .long x.toInt64 :: r)
  | .l2i, .long x :: r => some (1, .int x.toInt32 :: r)
  | .i2c, .int x :: r => some (1, .int (x.toUInt32 % 65536).toInt32 :: r)
  | .dup, v :: r => if v.category = 1 then some (1, v :: v :: r) else none
  | .dup2, v :: r => if v.category = 2 then some (1, v :: v :: r) else match r with
    | w :: r' => if v.category = 1 ∧ w.category = 1 then some (1, v :: w :: v :: w :: r') else none
    | [] => none
  | .pop, v :: r => if v.category = 1 then some (1, r) else none
  | _, _ => none
/-- jumps: the next place, the stack behind -/
def zbr : Instr → Nat → Nat → List Value → Option (Nat × List Value)
  | .goto off, pc, len, st => if len = 3 then (ztgt pc off).map (fun t => (t, st)) else none
  | .ifCond c off, pc, len, .int x :: r => if len = 3 then (match ztgt pc off with
    | none => none
    | some t => match c with
      | .eq => some (if x = 0 then t else pc + 3, r)
      | .ne => some (if x = 0 then pc + 3 else t, r)
      | .lt => some (if x < 0 then t else pc + 3, r)
      | .ge => some (if 0 ≤ x then t else pc + 3, r)
      | .gt => some (if 0 < x then t else pc + 3, r)
      | .le => some (if x ≤ 0 then t else pc + 3, r)) else none
  | .if_icmp c off, pc, len, .int y :: .int x :: r => if len = 3 then (match ztgt pc off with
    | none => none
    | some t => match c with
      | .eq => some (if x = y then t else pc + 3, r)
      | .ne => some (if x = y then pc + 3 else t, r)
      | .lt => some (if x < y then t else pc + 3, r)
      | .ge => some (if y ≤ x then t else pc + 3, r)
      | .gt => some (if y < x then t else pc + 3, r)
      | .le => some (if x ≤ y then t else pc + 3, r)) else none
  | .ifnull off, pc, len, .null :: r => if len = 3 then (ztgt pc off).map (fun t => (t, r)) else none
  | .ifnull _, pc, len, .ref _ :: r => if len = 3 then some (pc + 3, r) else none
  | .tableswitch d lo hi offs, pc, _, .int x :: r =>
    if x.toInt < lo ∨ hi < x.toInt then (ztgt pc d).map (fun t => (t, r)) else match offs[(x.toInt - lo).toNat]? with
      | none => none
      | some o => (ztgt pc o).map (fun t => (t, r))
  | .lookupswitch d ps, pc, _, .int x :: r =>
    if (ps.toList.zip (ps.toList.drop 1)).all (fun (a, next) => a.1 < next.1) = true then (ztgt pc (Op.lookupswitch.offset ps.toList d x.toInt)).map (fun t => (t, r)) else none
  | _, _, _, _ => none
/-- locals: the instruction's length, the locals and the stack behind it -/
def zloc : Instr → zML → List Value → Option (Nat × zML × List Value)
  | .iload_n k, ml, st => match ml[(k : Nat)]? with
    | some (some (.int x)) => some (1, ml, .int x :: st)
    | _ => none
  | .iload k, ml, st => match ml[k]? with
    | some (some (.int x)) => some (2, ml, .int x :: st)
    | _ => none
  | .lload_n k, ml, st => match ml[(k : Nat)]? with
    | some (some (.long x)) => some (1, ml, .long x :: st)
    | _ => none
  | .lload k, ml, st => match ml[k]? with
    | some (some (.long x)) => some (2, ml, .long x :: st)
    | _ => none
  | .aload_n k, ml, st => match ml[(k : Nat)]? with
    | some (some (.ref x)) => some (1, ml, .ref x :: st)
    | some (some .null) => some (1, ml, .null :: st)
    | _ => none
  | .aload k, ml, st => match ml[k]? with
    | some (some (.ref x)) => some (2, ml, .ref x :: st)
    | some (some .null) => some (2, ml, .null :: st)
    | _ => none
  | .istore_n k, ml, .int x :: r => (zst ml k (.int x)).map fun ml' => (1, ml', r)
  | .istore k, ml, .int x :: r => (zst ml k (.int x)).map fun ml' => (2, ml', r)
  | .lstore_n k, ml, .long x :: r => (zst ml k (.long x)).map fun ml' => (1, ml', r)
  | .lstore k, ml, .long x :: r => (zst ml k (.long x)).map fun ml' => (2, ml', r)
  | .astore_n k, ml, .ref x :: r => (zst ml k (.ref x)).map fun ml' => (1, ml', r)
  | .astore_n k, ml, .null :: r => (zst ml k .null).map fun ml' => (1, ml', r)
  | .astore k, ml, .ref x :: r => (zst ml k (.ref x)).map fun ml' => (2, ml', r)
  | .astore k, ml, .null :: r => (zst ml k .null).map fun ml' => (2, ml', r)
  | .iinc k n, ml, st => match ml[k]? with
    | some (some (.int x)) => (zst ml k (.int (x + Int32.ofInt n))).map fun ml' => (3, ml', st)
    | _ => none
  | _, _, _ => none
