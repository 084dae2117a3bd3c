/-! THE ENGINE: the claim's methods as a function. A heap is a list of kinds (objects with their class and what their reference fields hold; arrays with the number of their element type, their length and what a reference array holds) and two tables of contents, of ints and of longs, by cell and place. Cells are named by their number; what was there before the law (its script, the static arrays, the texts) by numbers from a million on. -/
abbrev Kd : Type := (Nat × List Nat) ⊕ (Nat × Nat × List Nat)
abbrev AH : Type := List Kd × (Nat → Nat → Int32) × (Nat → Nat → Int64)
abbrev EX : Type := Nat → Nat × (Nat → Int32)
def u2 {α : Type} (f : Nat → Nat → α) (i k : Nat) (v : α) : Nat → Nat → α := fun a b => if a = i ∧ b = k then v else f a b
def u1 {α : Type} (f : Nat → Nat → α) (i : Nat) (g : Nat → α) : Nat → Nat → α := fun a => if a = i then g else f a
def jk : Value := .retAddr 0
def kp (ls : List Value) (i : Nat) : List Value := match i with
  | 0 => ls
  | j + 1 => match ls[j]? with
    | some v => if v.category = 2 then ls.set j jk else ls
    | none => ls
def sto1 (ls : List Value) (i : Nat) (v : Value) : List Value := (kp ls i ++ List.replicate (i + 1 - ls.length) jk).set i v
def sto2 (ls : List Value) (i : Nat) (v : Value) : List Value := ((kp ls i ++ List.replicate (i + 2 - ls.length) jk).set i v).set (i + 1) jk
def ent : List Value → List Value
  | [] => []
  | v :: vs => if v.category = 2 then v :: jk :: ent vs else v :: ent vs
def rv (c : Nat) : Value := match c with
  | 0 => .null
  | a + 1 => .ref a
def cs (st : List Value) : Nat := (st.map fun v => v.category).sum
def cndB (c : ClassFile.Cond) (x y : Int32) : Bool := match c with
  | .eq => decide (x = y)
  | .ne => decide (¬ x = y)
  | .lt => decide (x < y)
  | .ge => decide (y ≤ x)
  | .gt => decide (y < x)
  | .le => decide (x ≤ y)
def vinB (j : Int32) (n : Nat) : Bool := decide (0 ≤ j.toInt ∧ j.toInt < (n : Int))
def atN (a : ArrayType) : Nat := match a with
  | .int => 0
  | .long => 1
  | .byte => 2
  | .boolean => 3
  | _ => 9
def strLen (s : Nat) : Nat := match s with
  | 0 => 4
  | 1 => 5
  | 2 => 4
  | 3 => 5
  | 4 => 4
  | 5 => 4
  | 6 => 4
  | _ => 0
def strCh (s : Nat) : List Int32 := match s with
  | 0 => [112, 97, 116, 104]
  | 1 => [115, 119, 97, 109, 112]
  | 2 => [108, 97, 107, 101]
  | 3 => [99, 97, 98, 105, 110]
  | 4 => [104, 111, 109, 101]
  | 5 => [109, 111, 111, 110]
  | 6 => [115, 110, 111, 119]
  | _ => []
def swT (d lo hi : Int) (os : List Int) (x : Int) : Option Nat := if x < lo ∨ hi < x then some d.toNat else (os[(x - lo).toNat]?).map (fun q => q.toNat)
def lkT (d : Int) (x : Int) : List (Int × Int) → Nat
  | [] => d.toNat
  | (k, t) :: r => if k = x then t.toNat else lkT d x r
/-- one step within a method; none where the machine would throw, or the engine doesn't know the instruction -/
def step1 (E : EX) (ai : Instr) (nx : Nat) (ls st : List Value) (h : AH) : Option (Nat × List Value × List Value × AH) :=
  match ai with
  | .iconst v => some (nx, ls, .int (Int32.ofInt v) :: st, h)
  | .lconst n => some (nx, ls, .long (Int64.ofNat (n : Nat)) :: st, h)
  | .aconst_null => some (nx, ls, .null :: st, h)
  | .ldc_w e => match kiT[e]? with
    | some (_, _, v, _) => some (nx, ls, .int v :: st, h)
    | none => none
  | .ldc2_w e => match klT[e]? with
    | some (_, _, v, _) => some (nx, ls, .long v :: st, h)
    | none => none
  | .ldc n => some (nx, ls, .ref (1000010 + n % 100) :: st, h)
  | .getstatic n => some (nx, ls, .ref (1000000 + n % 100) :: st, h)
  | .iload i => match ls[i]? with
    | some (.int x) => some (nx, ls, .int x :: st, h)
    | _ => none
  | .lload i => match ls[i]? with
    | some (.long x) => some (nx, ls, .long x :: st, h)
    | _ => none
  | .aload i => match ls[i]? with
    | some (.ref x) => some (nx, ls, .ref x :: st, h)
    | some .null => some (nx, ls, .null :: st, h)
    | _ => none
  | .istore i => match st with
    | .int x :: r => some (nx, sto1 ls i (.int x), r, h)
    | _ => none
  | .lstore i => match st with
    | .long x :: r => some (nx, sto2 ls i (.long x), r, h)
    | _ => none
  | .astore i => match st with
    | .ref x :: r => some (nx, sto1 ls i (.ref x), r, h)
    | .null :: r => some (nx, sto1 ls i .null, r, h)
    | _ => none
  | .iinc i n => match ls[i]? with
    | some (.int x) => some (nx, sto1 ls i (.int (x + Int32.ofInt n)), st, h)
    | _ => none
  | .iadd => match st with
    | .int y :: .int x :: r => some (nx, ls, .int (x + y) :: r, h)
    | _ => none
  | .isub => match st with
    | .int y :: .int x :: r => some (nx, ls, .int (x - y) :: r, h)
    | _ => none
  | .imul => match st with
    | .int y :: .int x :: r => some (nx, ls, .int (x * y) :: r, h)
    | _ => none
  | .idiv => match st with
    | .int y :: .int x :: r => if y = 0 then none else some (nx, ls, .int (x / y) :: r, h)
    | _ => none
  | .irem => match st with
    | .int y :: .int x :: r => if y = 0 then none else some (nx, ls, .int (x - x / y * y) :: r, h)
    | _ => none
  | .iand => match st with
    | .int y :: .int x :: r => some (nx, ls, .int (x &&& y) :: r, h)
    | _ => none
  | .ior => match st with
    | .int y :: .int x :: r => some (nx, ls, .int (x ||| y) :: r, h)
    | _ => none
  | .ishl => match st with
    | .int y :: .int x :: r => some (nx, ls, .int (x <<< (y &&& 31)) :: r, h)
    | _ => none
  | .ishr => match st with
    | .int y :: .int x :: r => some (nx, ls, .int (x >>> (y &&& 31)) :: r, h)
    | _ => none
  | .iushr => match st with
    | .int y :: .int x :: r => some (nx, ls, .int (x.toUInt32 >>> (y.toUInt32 &&& Int32.toUInt32 31)).toInt32 :: r, h)
    | _ => none
  | .ladd => match st with
    | .long y :: .long x :: r => some (nx, ls, .long (x + y) :: r, h)
    | _ => none
  | .lsub => match st with
    | .long y :: .long x :: r => some (nx, ls, .long (x - y) :: r, h)
    | _ => none
  | .lmul => match st with
    | .long y :: .long x :: r => some (nx, ls, .long (x * y) :: r, h)
    | _ => none
  | .ldiv => match st with
    | .long y :: .long x :: r => if y = 0 then none else some (nx, ls, .long (x / y) :: r, h)
    | _ => none
  | .lrem => match st with
    | .long y :: .long x :: r => if y = 0 then none else some (nx, ls, .long (x - x / y * y) :: r, h)
    | _ => none
  | .land => match st with
    | .long y :: .long x :: r => some (nx, ls, .long (x &&& y) :: r, h)
    | _ => none
  | .lor => match st with
    | .long y :: .long x :: r => some (nx, ls, .long (x ||| y) :: r, h)
    | _ => none
  | .lxor => match st with
    | .long y :: .long x :: r => some (nx, ls, .long (x ^^^ y) :: r, h)
    | _ => none
  | .lneg => match st with
    | .long x :: r => some (nx, ls, .long (-x) :: r, h)
    | _ => none
  | .lshl => match st with
    | .int y :: .long x :: r => some (nx, ls, .long (x <<< (y.toInt64 &&& 63)) :: r, h)
    | _ => none
  | .lshr => match st with
    | .int y :: .long x :: r => some (nx, ls, .long (x >>> (y.toInt64 &&& 63)) :: r, h)
    | _ => none
  | .lushr => match st with
    | .int y :: .long x :: r => some (nx, ls, .long (x.toUInt64 >>> (y.toInt64.toUInt64 &&& Int64.toUInt64 63)).toInt64 :: r, h)
    | _ => none
  | .lcmp => match st with
    | .long y :: .long x :: r => some (nx, ls, .int (lg_cmp x y) :: r, h)
    | _ => none
  | .i2l => match st with
    | .int x :: r => some (nx, ls, .long x.toInt64 :: r, h)
    | _ => none
  | .l2i => match st with
    | .long x :: r => some (nx, ls, .int x.toInt32 :: r, h)
    | _ => none
  | .i2b => match st with
    | .int x :: r => some (nx, ls, .int x.toInt8.toInt32 :: r, h)
    | _ => none
  | .dup => match st with
    | v :: r => if v.category = 1 then some (nx, ls, v :: v :: r, h) else none
    | _ => none
  | .pop => match st with
    | v :: r => if v.category = 1 then some (nx, ls, r, h) else none
    | _ => none
  | .dup2 => match st with
    | v :: w :: r => if v.category = 1 ∧ w.category = 1 then some (nx, ls, v :: w :: v :: w :: r, h) else none
    | _ => none
  | .ifCond c t => match st with
    | .int x :: r => some (if cndB c x 0 = true then t.toNat else nx, ls, r, h)
    | _ => none
  | .if_icmp c t => match st with
    | .int y :: .int x :: r => some (if cndB c x y = true then t.toNat else nx, ls, r, h)
    | _ => none
  | .ifnull t => match st with
    | .null :: r => some (t.toNat, ls, r, h)
    | .ref _ :: r => some (nx, ls, r, h)
    | _ => none
  | .ifnonnull t => match st with
    | .null :: r => some (nx, ls, r, h)
    | .ref _ :: r => some (t.toNat, ls, r, h)
    | _ => none
  | .goto t => some (t.toNat, ls, st, h)
  | .tableswitch d lo hi os => match st with
    | .int x :: r => match swT d lo hi os.toList x.toInt with
      | some t => some (t, ls, r, h)
      | none => none
    | _ => none
  | .lookupswitch d ps => match st with
    | .int x :: r => some (lkT d x.toInt ps.toList, ls, r, h)
    | _ => none
  | .getfield n => match st with
    | .ref a :: r => match h.1[a]? with
      | some (.inl (ci, rs)) => if ci = n % 10000 / 100 then (match fk ci (n % 100) with
        | 0 => some (nx, ls, .int (h.2.1 a (n % 100)) :: r, h)
        | 1 => some (nx, ls, .long (h.2.2 a (n % 100)) :: r, h)
        | 2 => some (nx, ls, rv (rs.getD (n % 100) 0) :: r, h)
        | _ => none) else none
      | _ => none
    | _ => none
  | .putfield n => match st with
    | .int x :: .ref a :: r => match h.1[a]? with
      | some (.inl (ci, _)) => if ci = n % 10000 / 100 ∧ fk ci (n % 100) = 0 then some (nx, ls, r, (h.1, u2 h.2.1 a (n % 100) x, h.2.2)) else none
      | _ => none
    | .long x :: .ref a :: r => match h.1[a]? with
      | some (.inl (ci, _)) => if ci = n % 10000 / 100 ∧ fk ci (n % 100) = 1 then some (nx, ls, r, (h.1, h.2.1, u2 h.2.2 a (n % 100) x)) else none
      | _ => none
    | .ref b :: .ref a :: r => match h.1[a]? with
      | some (.inl (ci, rs)) => if ci = n % 10000 / 100 ∧ fk ci (n % 100) = 2 ∧ n % 100 < rs.length then some (nx, ls, r, (h.1.set a (.inl (ci, rs.set (n % 100) (b + 1))), h.2.1, h.2.2)) else none
      | _ => none
    | _ => none
  | .iaload => match st with
    | .int j :: .ref a :: r => if a < 1000000 then (match h.1[a]? with
      | some (.inr (0, n, _)) => if vinB j n = true then some (nx, ls, .int (h.2.1 a j.toNatClampNeg) :: r, h) else none
      | _ => none) else if vinB j (E (a - 1000000)).1 = true ∧ a - 1000000 < 4 then some (nx, ls, .int ((E (a - 1000000)).2 j.toNatClampNeg) :: r, h) else none
    | _ => none
  | .laload => match st with
    | .int j :: .ref a :: r => match h.1[a]? with
      | some (.inr (1, n, _)) => if vinB j n = true then some (nx, ls, .long (h.2.2 a j.toNatClampNeg) :: r, h) else none
      | _ => none
    | _ => none
  | .baload => match st with
    | .int j :: .ref a :: r => match h.1[a]? with
      | some (.inr (2, n, _)) => if vinB j n = true then some (nx, ls, .int (h.2.1 a j.toNatClampNeg) :: r, h) else none
      | some (.inr (3, n, _)) => if vinB j n = true then some (nx, ls, .int (h.2.1 a j.toNatClampNeg) :: r, h) else none
      | _ => none
    | _ => none
  | .aaload => match st with
    | .int j :: .ref a :: r => match h.1[a]? with
      | some (.inr (t, n, rs)) => if (t = 4 ∨ t = 5) ∧ vinB j n = true then some (nx, ls, rv (rs.getD j.toNatClampNeg 0) :: r, h) else none
      | _ => none
    | _ => none
  | .iastore => match st with
    | .int x :: .int j :: .ref a :: r => match h.1[a]? with
      | some (.inr (0, n, _)) => if vinB j n = true then some (nx, ls, r, (h.1, u2 h.2.1 a j.toNatClampNeg x, h.2.2)) else none
      | _ => none
    | _ => none
  | .lastore => match st with
    | .long x :: .int j :: .ref a :: r => match h.1[a]? with
      | some (.inr (1, n, _)) => if vinB j n = true then some (nx, ls, r, (h.1, h.2.1, u2 h.2.2 a j.toNatClampNeg x)) else none
      | _ => none
    | _ => none
  | .bastore => match st with
    | .int x :: .int j :: .ref a :: r => match h.1[a]? with
      | some (.inr (2, n, _)) => if vinB j n = true then some (nx, ls, r, (h.1, u2 h.2.1 a j.toNatClampNeg (vp_nar .byte x), h.2.2)) else none
      | some (.inr (3, n, _)) => if vinB j n = true then some (nx, ls, r, (h.1, u2 h.2.1 a j.toNatClampNeg (vp_nar .boolean x), h.2.2)) else none
      | _ => none
    | _ => none
  | .aastore => match st with
    | .ref b :: .int j :: .ref a :: r => match h.1[a]?, h.1[b]? with
      | some (.inr (t, n, rs)), some (.inl (ci, _)) => if ((t = 4 ∧ ci = 6) ∨ (t = 5 ∧ ci = 0)) ∧ vinB j n = true ∧ j.toNatClampNeg < rs.length then some (nx, ls, r, (h.1.set a (.inr (t, n, rs.set j.toNatClampNeg (b + 1))), h.2.1, h.2.2)) else none
      | _, _ => none
    | _ => none
  | .arraylength => match st with
    | .ref a :: r => if a < 1000000 then (match h.1[a]? with
      | some (.inr (t, n, _)) => if t < 6 then some (nx, ls, .int (Int32.ofNat n) :: r, h) else none
      | _ => none) else if a - 1000000 < 4 then some (nx, ls, .int (Int32.ofNat (E (a - 1000000)).1) :: r, h) else none
    | _ => none
  | .new n => if h.1.length < 1000000 then some (nx, ls, .ref h.1.length :: st, (h.1 ++ [.inl (n % 100, List.replicate (nF (n % 100)) 0)], u1 h.2.1 h.1.length (fun _ => 0), u1 h.2.2 h.1.length (fun _ => 0))) else none
  | .newarray a => match st with
    | .int n :: r => if 0 ≤ n.toInt ∧ n.toInt ≤ 65536 ∧ h.1.length < 1000000 then some (nx, ls, .ref h.1.length :: r, (h.1 ++ [.inr (atN a, n.toNatClampNeg, [])], u1 h.2.1 h.1.length (fun _ => 0), u1 h.2.2 h.1.length (fun _ => 0))) else none
    | _ => none
  | .anewarray t => match st with
    | .int n :: r => if 0 ≤ n.toInt ∧ n.toInt ≤ 65536 ∧ h.1.length < 1000000 then some (nx, ls, .ref h.1.length :: r, (h.1 ++ [.inr (t % 100, n.toNatClampNeg, List.replicate n.toNatClampNeg 0)], u1 h.2.1 h.1.length (fun _ => 0), u1 h.2.2 h.1.length (fun _ => 0))) else none
    | _ => none
  | .checkcast _ => match st with
    | .ref a :: r => match h.1[a]? with
      | some (.inr (0, _, _)) => some (nx, ls, .ref a :: r, h)
      | _ => none
    | _ => none
  | .invokedynamic n => match n % 10 with
    | 0 => match st with
      | .int len :: .int dp :: .ref b :: .int sp :: .ref a :: r => match h.1[a]?, h.1[b]? with
        | some (.inr (t, na, _)), some (.inr (t2, nb, _)) =>
          if t2 = t ∧ 0 ≤ sp.toInt ∧ 0 ≤ dp.toInt ∧ 0 ≤ len.toInt ∧ sp.toNatClampNeg + len.toNatClampNeg ≤ na ∧ dp.toNatClampNeg + len.toNatClampNeg ≤ nb ∧ cs r ≤ 8 then (match t with
            | 0 => some (nx, ls, r, (h.1, u1 h.2.1 b (va_cpy (h.2.1 a) (h.2.1 b) sp.toNatClampNeg dp.toNatClampNeg len.toNatClampNeg), h.2.2))
            | 1 => some (nx, ls, r, (h.1, h.2.1, u1 h.2.2 b (va_cpy (h.2.2 a) (h.2.2 b) sp.toNatClampNeg dp.toNatClampNeg len.toNatClampNeg)))
            | _ => none) else none
        | _, _ => none
      | _ => none
    | 1 => match st with
      | .ref a :: r => if a = 1000001 ∧ cs r ≤ 8 ∧ h.1.length < 1000000 then some (nx, ls, .ref h.1.length :: r, (h.1 ++ [.inr (0, (E 1).1, [])], u1 h.2.1 h.1.length (E 1).2, u1 h.2.2 h.1.length (fun _ => 0))) else none
      | _ => none
    | 2 => match st with
      | .ref a :: r => if 1000010 ≤ a ∧ a < 1000017 ∧ cs r ≤ 8 then some (nx, ls, .int (Int32.ofNat (strLen (a - 1000010))) :: r, h) else none
      | _ => none
    | 3 => match st with
      | .int j :: .ref a :: r => if 1000010 ≤ a ∧ a < 1000017 ∧ cs r ≤ 8 ∧ vinB j (strLen (a - 1000010)) = true then some (nx, ls, .int ((strCh (a - 1000010)).getD j.toNatClampNeg 0) :: r, h) else none
      | _ => none
    | 4 => match st with
      | .ref a :: r => if a < 1000000 ∧ cs r ≤ 8 then some (nx, ls, r, h) else none
      | _ => none
    | 5 => match st with
      | .int y :: .int x :: r => if cs r ≤ 8 then some (nx, ls, .int (if y < x then y else x) :: r, h) else none
      | _ => none
    | 6 => match st with
      | .int y :: .int x :: r => if cs r ≤ 8 then some (nx, ls, .int (if x < y then y else x) :: r, h) else none
      | _ => none
    | _ => none
  | .ret keep => some (nx, ls.take keep, st, h)
  | _ => none
/-- does the call's receiver, or its first argument, fit -/
def recvOk (kind y : Nat) (st : List Value) (h : AH) : Bool := match kind with
  | 0 => match st[naM y - 1]? with
    | some (.ref a) => match h.1[a]? with
      | some (.inl (ci, _)) => Nat.beq ci (ciM y) && Nat.ble 1 (naM y)
      | _ => false
    | _ => false
  | 1 => true
  | _ => match st[naM y - 1]? with
    | some (.ref a) => decide (a < 1000000) && Nat.ble 1 (naM y)
    | _ => false
def callOk (kind y : Nat) (st : List Value) (h : AH) : Bool := Nat.ble (naM y) st.length && Nat.ble (cs (st.drop (naM y))) 8 && Nat.ble (ent (st.take (naM y)).reverse).length (mlM y) && recvOk kind y st h
def retV (M : Nat) (v : Int32) : Bool := Nat.beq (rkM M) 1 || (Nat.beq (rkM M) 2 && (decide (v = 0) || decide (v = 1)))
def run (E : EX) : Nat → Nat → Nat → List Value → List Value → AH → Option (Option Value × AH)
  | 0, _, _, _, _, _ => none
  | F + 1, M, pc, ls, st, h => match ncode M pc with
    | none => none
    | some (ai, nx) => match ai with
      | .invokevirtual n => if callOk 0 (n % 1000) st h = true then (match run E F (n % 1000) 0 (ent (st.take (naM (n % 1000))).reverse) [] h with
        | none => none
        | some (r, h1) => run E F M nx ls (r.toList ++ st.drop (naM (n % 1000))) h1) else none
      | .invokestatic n => if callOk 1 (n % 1000) st h = true then (match run E F (n % 1000) 0 (ent (st.take (naM (n % 1000))).reverse) [] h with
        | none => none
        | some (r, h1) => run E F M nx ls (r.toList ++ st.drop (naM (n % 1000))) h1) else none
      | .invokespecial n => if callOk 2 (n % 1000) st h = true then (match run E F (n % 1000) 0 (ent (st.take (naM (n % 1000))).reverse) [] h with
        | none => none
        | some (r, h1) => run E F M nx ls (r.toList ++ st.drop (naM (n % 1000))) h1) else none
      | .ireturn => match st with
        | [.int v] => if retV M v = true then some (some (.int v), h) else none
        | _ => none
      | .lreturn => match st with
        | [.long v] => if rkM M = 3 then some (some (.long v), h) else none
        | _ => none
      | .areturn => match st with
        | [.ref a] => if rkM M = 4 then some (some (.ref a), h) else none
        | [.null] => if rkM M = 4 then some (some .null, h) else none
        | _ => none
      | .return_ => match st with
        | [] => if rkM M = 0 then some (none, h) else none
        | _ => none
      | ai => match step1 E ai nx ls st h with
        | none => none
        | some (pc1, ls1, st1, h1) => run E F M pc1 ls1 st1 h1
