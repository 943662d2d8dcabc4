/-! the small machine's cells and calls, its step, its runs -/
/-- the two texts (at the places zBig + 1, zBig + 2) -/
def zstr : Nat → Nat → Option Nat
  | 5, 35 => some 0
  | 5, 106 => some 1
  | _, _ => none
def ztx : Nat → List Nat
  | 0 => [102, 111, 114, 99, 101, 32, 119, 101, 105, 103, 104, 116, 32, 100, 101, 112, 116, 104, 32, 112, 108, 97, 99, 101, 32, 109, 105, 110, 117, 116, 101, 32, 98, 101, 115, 105, 100, 101, 32, 102, 101, 108, 116, 32, 98, 111, 121, 32, 111, 100, 100, 115, 32, 112, 117, 108, 108, 115, 32, 115, 110, 111, 114, 101, 115, 32, 103, 104, 111, 115, 116, 32, 115, 108, 97, 99, 107, 32, 97, 116, 32, 100, 114, 101, 97, 109, 32, 116, 117, 103, 32, 108, 97, 115, 116, 115, 32, 112, 97, 115, 115, 101, 115, 32, 112, 97, 115, 115, 32, 100, 101, 101, 112, 32, 119, 104, 101, 110, 32, 111, 114, 32, 97, 110, 100, 32, 110, 111, 116, 32, 97, 108, 108, 32, 109, 105, 110, 32, 109, 97, 120]
  | _ => [59, 91, 93, 40, 41, 60, 62, 61, 43, 45, 42, 47, 37, 44]
/-- where c stands in the text; -1 without -/
def zixF (c : Int32) : List Nat → Nat → Int32
  | [], _ => -1
  | b :: l, k => if nI b = c then nI k else zixF c l (k + 1)
/-- length, charAt, indexOf of the two texts -/
def zprm : Nat → List Value → zM → Option zRes
  | 3328, [.ref a], M => if a = zBig + 1 ∨ a = zBig + 2 then some (some (.int (nI (ztx (a - (zBig + 1))).length)), M) else none
  | 3329, [.ref a, .int i], M => if (a = zBig + 1 ∨ a = zBig + 2) ∧ ¬ (i < 0 ∨ (ztx (a - (zBig + 1))).length ≤ i.toNatClampNeg) then some (some (.int (nI ((ztx (a - (zBig + 1))).getD i.toNatClampNeg 0))), M) else none
  | 3330, [.ref a, .int c], M => if a = zBig + 1 ∨ a = zBig + 2 then some (some (.int (zixF c (ztx (a - (zBig + 1))) 0)), M) else none
  | _, _, _ => none
def zdef (ci : Nat) : List Value := (List.range (znf ci)).map (fun k => defaultValue (zty ci k))
/-- the arrays that 'newarray' makes: kind, what they hold at first -/
def zaty : ArrayType → Option (Nat × Value)
  | .int => some (10, .int 0)
  | .long => some (11, .long 0)
  | .boolean => some (12, .int 0)
  | _ => none
def zidx (vs : List Value) (i : Int32) : Option Nat := if i < 0 ∨ vs.length ≤ i.toNatClampNeg then none else some i.toNatClampNeg
/-- an array of that kind at a: what it holds -/
def zarr (M : zM) (a kind : Nat) : Option (List Value) := match M[a]? with
  | some (c, vs) => if c = kind then some vs else none
  | none => none
def zald (M : zM) (kind : Nat) : List Value → Option (List Value)
  | .int i :: .ref a :: r => match zarr M a kind with
    | some vs => match zidx vs i with
      | some k => (vs[k]?).map (fun v => v :: r)
      | none => none
    | none => none
  | _ => none
def zast (M : zM) (kind : Nat) (v : Value) : List Value → Option (List Value × zM)
  | .int i :: .ref a :: r => match zarr M a kind with
    | some vs => match zidx vs i with
      | some k => some (r, M.set a (kind, vs.set k v))
      | none => none
    | none => none
  | _ => none
/-- cells: the instruction's length, the stack and the cells behind it -/
def zmem (own : Nat) (ini : Bool) (X : List Int32) : Instr → List Value → zM → Option (Nat × List Value × zM)
  | .getfield idx, .ref a :: r, M => match zfld own idx with
    | some (ci, k) => match zarr M a ci with
      | some vs => (vs[k]?).map (fun v => (3, v :: r, M))
      | none => none
    | none => none
  | .putfield idx, v :: .ref a :: r, M => match zfld own idx with
    | some (ci, k) => match zarr M a ci with
      | some vs => if k < vs.length ∧ narrow (zty ci k) v = v ∧ fits (zty ci k) v = true ∧ ((ztb ci k).2.2.2 = true → ini = true ∧ own = ci) then some (3, r, M.set a (ci, vs.set k v)) else none
      | none => none
    | none => none
  | .iaload, .int i :: .ref a :: r, M => if a = zBig then (if own ≠ 10 ∨ i < 0 ∨ X.length ≤ i.toNatClampNeg then none else some (1, .int (X.getD i.toNatClampNeg 0) :: r, M)) else (zald M 10 (.int i :: .ref a :: r)).map (fun s => (1, s, M))
  | .laload, st, M => (zald M 11 st).map (fun s => (1, s, M))
  | .baload, st, M => (zald M 12 st).map (fun s => (1, s, M))
  | .aaload, st, M => (zald M 13 st).map (fun s => (1, s, M))
  | .iastore, .int x :: st, M => (zast M 10 (.int x) st).map (fun s => (1, s.1, s.2))
  | .lastore, .long x :: st, M => (zast M 11 (.long x) st).map (fun s => (1, s.1, s.2))
  | .bastore, .int x :: st, M => if narrow .boolean (.int x) = .int x then (zast M 12 (.int x) st).map (fun s => (1, s.1, s.2)) else none
  | .aastore, .ref v :: st, M => if (zarr M v 6).isSome then (zast M 13 (.ref v) st).map (fun s => (1, s.1, s.2)) else none
  | .arraylength, .ref a :: r, M => if a = zBig then (if own = 10 then some (1, .int (nI X.length) :: r, M) else none) else match M[a]? with
    | some (c, vs) => if 10 ≤ c ∧ c < 14 then some (1, .int (nI vs.length) :: r, M) else none
    | none => none
  | .new idx, st, M => match znew own idx with
    | some ci => if M.length < zBig then some (3, .ref M.length :: st, M ++ [(ci, zdef ci)]) else none
    | none => none
  | .newarray aty, .int n :: r, M => match zaty aty with
    | some (kind, v) => if ¬ n < 0 ∧ n.toNatClampNeg ≤ 100000 ∧ M.length < zBig then some (2, .ref M.length :: r, M ++ [(kind, List.replicate n.toNatClampNeg v)]) else none
    | none => none
  | .anewarray idx, .int n :: r, M => if znew own idx = some 6 ∧ ¬ n < 0 ∧ n.toNatClampNeg ≤ 100000 ∧ M.length < zBig then some (3, .ref M.length :: r, M ++ [(13, List.replicate n.toNatClampNeg .null)]) else none
  | .ldc idx, st, M => match zldc own idx with
    | some v => some (2, .int v :: st, M)
    | none => match zstr own idx with
      | some k => some (2, .ref (zBig + 1 + k) :: st, M)
      | none => none
  | .ldc_w idx, st, M => match zldc own idx with
    | some v => some (3, .int v :: st, M)
    | none => none
  | .ldc2_w idx, st, M => match zldl own idx with
    | some v => some (3, .long v :: st, M)
    | none => none
  | _, _, _ => none
def zcpy (f g : List Value) (sp dp n : Nat) : List Value := g.take dp ++ (f.drop sp).take n ++ g.drop (dp + n)
def zfitA : Nat → Value → Bool
  | 10, .int _ => true
  | 12, .int v => v == 0 || v == 1
  | _, _ => false
/-- System.arraycopy between two arrays of ints, of booleans -/
def zacpy (M : zM) : List Value → Option (List Value × zM)
  | .int n :: .int dp :: .ref a :: .int sp :: .ref b :: r => match M[b]?, M[a]? with
    | some (c0, f), some (c1, g) =>
      if c0 = c1 ∧ (c0 = 10 ∨ c0 = 12) ∧ ¬ sp < 0 ∧ ¬ dp < 0 ∧ ¬ n < 0 ∧ sp.toNatClampNeg + n.toNatClampNeg ≤ f.length ∧ dp.toNatClampNeg + n.toNatClampNeg ≤ g.length ∧ ((f.drop sp.toNatClampNeg).take n.toNatClampNeg).all (zfitA c0) = true ∧ zcat r ≤ 8
      then some (r, M.set a (c1, zcpy f g sp.toNatClampNeg dp.toNatClampNeg n.toNatClampNeg)) else none
    | _, _ => none
  | _ => none
/-- calls (three bytes each): the stack and the cells behind them -/
def zinv (own : Nat) (call : Nat → List Value → zM → Option zRes) : Instr → List Value → zM → Option (List Value × zM)
  | .invokevirtual idx, st, M => match zcall own idx with
    | some (0, j) => match zmt j with
      | some (ci, na, _) => match st.drop na with
        | .ref a :: r => match zarr M a ci with
          | some _ => if na ≤ st.length ∧ zcat r ≤ 8 then (call j (.ref a :: (st.take na).reverse) M).map (fun q => (q.1.toList ++ r, q.2)) else none
          | none => none
        | _ => none
      | none => none
    | some (8, _) => match st with
      | .ref a :: r => if (a = zBig + 1 ∨ a = zBig + 2) ∧ zcat r ≤ 8 then (call 3328 [.ref a] M).map (fun q => (q.1.toList ++ r, q.2)) else none
      | _ => none
    | some (9, _) => match st with
      | .int i :: .ref a :: r => if (a = zBig + 1 ∨ a = zBig + 2) ∧ zcat r ≤ 8 then (call 3329 [.ref a, .int i] M).map (fun q => (q.1.toList ++ r, q.2)) else none
      | _ => none
    | some (10, _) => match st with
      | .int i :: .ref a :: r => if (a = zBig + 1 ∨ a = zBig + 2) ∧ zcat r ≤ 8 then (call 3330 [.ref a, .int i] M).map (fun q => (q.1.toList ++ r, q.2)) else none
      | _ => none
    | _ => none
  | .invokestatic idx, st, M => match zcall own idx with
    | some (1, j) => match zmt j with
      | some (_, na, _) => if na ≤ st.length ∧ zcat (st.drop na) ≤ 8 then (call j (st.take na).reverse M).map (fun q => (q.1.toList ++ st.drop na, q.2)) else none
      | none => none
    | some (5, _) => match st with
      | .int y :: .int x :: r => if zcat r ≤ 8 then some (.int (if x < y then y else x) :: r, M) else none
      | _ => none
    | some (6, _) => match st with
      | .int y :: .int x :: r => if zcat r ≤ 8 then some (.int (if y < x then y else x) :: r, M) else none
      | _ => none
    | some (7, _) => zacpy M st
    | _ => none
  | .invokespecial idx, st, M => match zcall own idx with
    | some (2, j) => match zmt j with
      | some (_, na, _) => match st.drop na with
        | .ref a :: r => if na ≤ st.length ∧ zcat r ≤ 8 then (call j (.ref a :: (st.take na).reverse) M).map (fun q => (q.1.toList ++ r, q.2)) else none
        | _ => none
      | none => none
    | some (3, j) => match zmt j with
      | some (_, na, _) => match st.drop na with
        | .ref a :: r => if na ≤ st.length ∧ zcat r ≤ 8 then (call j (.ref a :: (st.take na).reverse) M).map (fun q => (q.1.toList ++ r, q.2)) else none
        | _ => none
      | none => none
    | some (4, _) => match st with
      | .ref _ :: r => if zcat r ≤ 8 then some (r, M) else none
      | _ => none
    | _ => none
  | _, _, _ => none
/-- the end of a method -/
def zret (ret : Option FieldType) : Instr → List Value → Option (Option Value)
  | .ireturn, [.int v] => match ret with
    | some ty => if narrow ty (.int v) = .int v then some (some (.int v)) else none
    | none => none
  | .lreturn, [.long v] => if ret = some .long then some (some (.long v)) else none
  | .return_, [] => if ret = none then some none else none
  | _, _ => none
/-- one step -/
def zstep (own : Nat) (ini : Bool) (ret : Option FieldType) (cc : ByteArray) (X : List Int32) (call : Nat → List Value → zM → Option zRes) (s : zS) : Option (zS ⊕ zRes) := match decode cc s.1 with
  | .error _ => none
  | .ok (i, len) => match zret ret i s.2.2.1 with
    | some v => if len = 1 then some (.inr (v, s.2.2.2)) else none
    | none => match zpure i s.2.2.1 with
      | some (n, st) => if n = len then some (.inl (s.1 + len, s.2.1, st, s.2.2.2)) else none
      | none => match zbr i s.1 len s.2.2.1 with
        | some (pc, st) => some (.inl (pc, s.2.1, st, s.2.2.2))
        | none => match zloc i s.2.1 s.2.2.1 with
          | some (n, ml, st) => if n = len then some (.inl (s.1 + len, ml, st, s.2.2.2)) else none
          | none => match zmem own ini X i s.2.2.1 s.2.2.2 with
            | some (n, st, M) => if n = len then some (.inl (s.1 + len, s.2.1, st, M)) else none
            | none => match zinv own call i s.2.2.1 s.2.2.2 with
              | some (st, M) => if len = 3 then some (.inl (s.1 + 3, s.2.1, st, M)) else none
              | none => none
def zloop (f : zS → Option (zS ⊕ zRes)) : Nat → zS → Option zRes
  | 0, _ => none
  | n + 1, s => match f s with
    | none => none
    | some (.inl s') => zloop f n s'
    | some (.inr r) => some r
/-- the locals at a method's entry -/
def zargs (vs : List Value) : zML := vs.flatMap fun v => if v.category = 2 then [some v, none] else [some v]
def zent (vs : List Value) (n : Nat) : zML := zargs vs ++ List.replicate (n - (zargs vs).length) none
/-- a method of number j, d calls deep at most, F steps each at most -/
def zev (X : List Int32) (F : Nat) : Nat → Nat → List Value → zM → Option zRes
  | 0, _, _, _ => none
  | d + 1, j, vs, M => match zmt j with
    | none => if 4 ≤ d + 1 then zprm j vs M else none
    | some (ci, _, y, cc, ml, ret, _) => if (zargs vs).length ≤ ml then zloop (zstep ci (decide (y.name = "<init>")) ret cc X (zev X F d)) F (0, zent vs ml, [], M) else none
