/-! A small machine over a small heap: cells by number, arrays as functions. It runs a table of entries (pc, instruction, next pc, a, b, int, long, switch, values, places of words). -/
abbrev mc_En : Type := Nat × Instr × Nat × Nat × Nat × Int32 × Int64 × List (Int32 × Nat) × List Value × List Nat
abbrev mc_H : Type := List va_E
abbrev mc_S : Type := Nat × List (Option Value) × List Value × mc_H × Nat × Nat
abbrev mc_R : Type := Option Value × mc_H × Nat × Nat
abbrev mc_O : Type := List (Bool × mc_S) ⊕ ((Nat × List Value × mc_S) ⊕ (Bool × Option Value))
def mc_get {α : Type} : List α → Nat → Option α
  | [], _ => none
  | x :: _, 0 => some x
  | _ :: r, n + 1 => mc_get r n
def mc_set {α β : Type} : List α → Nat → α → (List α → β) → β
  | [], _, _, k => k []
  | _ :: r, 0, v, k => k (v :: r)
  | x :: r, n + 1, v, k => mc_set r n v (fun q => k (x :: q))
def mc_app {α β : Type} : List α → List α → (List α → β) → β
  | [], r, k => k r
  | x :: h, r, k => mc_app h r (fun q => k (x :: q))
def mc_len {α β : Type} : List α → Nat → (Nat → β) → β
  | [], n, k => k n
  | _ :: r, n, k => mc_len r (n + 1) k
def mc_fnd : List mc_En → Nat → Option mc_En
  | [], _ => none
  | e :: r, pc => bif Nat.beq e.1 pc then some e else mc_fnd r pc
def mc_go (S : mc_S) : Option mc_O := some (.inl [(true, S)])
def mc_ck (b : Bool) (S : mc_S) : Option mc_O := some (.inl [(b, S)])
def mc_br (b : Bool) (S1 S2 : mc_S) : Option mc_O := some (.inl [(b, S1), (true, S2)])
def mc_inb (i : Int32) (n : Nat) : Bool := decide (¬ (i < 0 ∨ n ≤ i.toNatClampNeg))
/-- the local ahead of i is no long -/
def mc_nl (L : List (Option Value)) : Nat → Bool
  | 0 => true
  | i + 1 => match mc_get L i with
    | some (some (.long _)) => false
    | some (some (.double _)) => false
    | _ => true
def mc_cond (o : Jvm.ClassFile.Cond) (x y : Int32) : Bool := match o with
  | .eq => decide (x = y)
  | .ne => decide (¬ x = y)
  | .lt => decide (x < y)
  | .ge => decide (y ≤ x)
  | .gt => decide (y < x)
  | .le => decide (x ≤ y)
/-- the static tables -/
def mc_tabs : List (List Int32) := [[5, 1, 3, 4, 0, 0, 10, 12, 20, 0], [0, 0, 1, 0, 0, 0, 0, 0, 1, 0], [20, 9, 9, 9, 4, 1, 99, 12, 60, 31], [-1, 0, 0, 2, 1, 3, 0, 6], [1, 10, 11, 2, 20, 0, 0, 0, 0, 30, 0, 0, 0, 41, 40, 0, 0, 0, 0, 50, 0, 0, 60, 61, 70, 0, 0, 0, 81, 80, 0, 0]]
def mc_tf (l : List Int32) (j : Nat) : Int32 := l.getD j 0
def mc_sw (x : Int32) (L : List (Option Value)) (st : List Value) (h : mc_H) (c n d : Nat) : List (Int32 × Nat) → List (Bool × mc_S)
  | [] => [(true, (d, L, st, h, c, n))]
  | (v, t) :: r => (decide (x = v), (t, L, st, h, c, n)) :: mc_sw x L st h c n d r
/-- the arguments: the topmost last -/
def mc_pop {β : Type} : Nat → List Value → List Value → (List Value → List Value → Option β) → Option β
  | 0, st, as, k => k as st
  | n + 1, v :: st, as, k => mc_pop n st (v :: as) k
  | _ + 1, [], _, _ => none
def mc_w (st : List Value) : Nat := (st.map fun v => v.category).sum
def mc_put0 (nx a b : Nat) (L : List (Option Value)) (st : List Value) (h : mc_H) (c n : Nat) : Option mc_O := match st with
  | .int x :: .ref i :: r => match mc_get h i with
    | some (.inr (ci, fs)) => bif Nat.beq ci a then (match mc_get fs b with
      | some _ => mc_set fs b (.int x) (fun fs => mc_set h i (.inr (ci, fs)) (fun h => mc_go (nx, L, r, h, c, n)))
      | none => none) else none
    | _ => none
  | _ => none
def mc_put1 (nx a b : Nat) (L : List (Option Value)) (st : List Value) (h : mc_H) (c n : Nat) : Option mc_O := match st with
  | .int x :: .ref i :: r => match mc_get h i with
    | some (.inr (ci, fs)) => bif Nat.beq ci a then (match mc_get fs b with
      | some _ => mc_set fs b (.int x) (fun fs => mc_set h i (.inr (ci, fs)) (fun h => mc_ck (decide (x = 0 ∨ x = 1)) (nx, L, r, h, c, n)))
      | none => none) else none
    | _ => none
  | _ => none
def mc_put2 (nx a b : Nat) (L : List (Option Value)) (st : List Value) (h : mc_H) (c n : Nat) : Option mc_O := match st with
  | .long x :: .ref i :: r => match mc_get h i with
    | some (.inr (ci, fs)) => bif Nat.beq ci a then (match mc_get fs b with
      | some _ => mc_set fs b (.long x) (fun fs => mc_set h i (.inr (ci, fs)) (fun h => mc_go (nx, L, r, h, c, n)))
      | none => none) else none
    | _ => none
  | _ => none
def mc_put3 (nx a b : Nat) (L : List (Option Value)) (st : List Value) (h : mc_H) (c n : Nat) : Option mc_O := match st with
  | .ref x :: .ref i :: r => match mc_get h i with
    | some (.inr (ci, fs)) => bif Nat.beq ci a then (match mc_get fs b with
      | some _ => mc_set fs b (.ref x) (fun fs => mc_set h i (.inr (ci, fs)) (fun h => mc_go (nx, L, r, h, c, n)))
      | none => none) else none
    | _ => none
  | _ => none
def mc_putK (k nx a b : Nat) (L : List (Option Value)) (st : List Value) (h : mc_H) (c n : Nat) : Option mc_O := match k with
  | 0 => mc_put0 nx a b L st h c n
  | 1 => mc_put1 nx a b L st h c n
  | 2 => mc_put2 nx a b L st h c n
  | 3 => mc_put3 nx a b L st h c n
  | _ => none
def mc_stepI (ins : Instr) (nx a b : Nat) (iv : Int32) (lv : Int64) (sw : List (Int32 × Nat)) (vs : List Value) (L : List (Option Value)) (st : List Value) (h : mc_H) (c n : Nat) : Option mc_O := match ins with
  | .iconst _ => mc_go (nx, L, .int iv :: st, h, c, n)
  | .bipush _ => mc_go (nx, L, .int iv :: st, h, c, n)
  | .sipush _ => mc_go (nx, L, .int iv :: st, h, c, n)
  | .ldc _ => mc_go (nx, L, .int iv :: st, h, c, n)
  | .ldc_w _ => mc_go (nx, L, .int iv :: st, h, c, n)
  | .lconst _ => mc_go (nx, L, .long lv :: st, h, c, n)
  | .ldc2_w _ => mc_go (nx, L, .long lv :: st, h, c, n)
  | .iload_n _ => match mc_get L a with
    | some (some (.int x)) => mc_go (nx, L, .int x :: st, h, c, n)
    | _ => none
  | .iload _ => match mc_get L a with
    | some (some (.int x)) => mc_go (nx, L, .int x :: st, h, c, n)
    | _ => none
  | .lload_n _ => match mc_get L a with
    | some (some (.long x)) => mc_go (nx, L, .long x :: st, h, c, n)
    | _ => none
  | .lload _ => match mc_get L a with
    | some (some (.long x)) => mc_go (nx, L, .long x :: st, h, c, n)
    | _ => none
  | .aload_n _ => match mc_get L a with
    | some (some (.ref x)) => mc_go (nx, L, .ref x :: st, h, c, n)
    | _ => none
  | .aload _ => match mc_get L a with
    | some (some (.ref x)) => mc_go (nx, L, .ref x :: st, h, c, n)
    | _ => none
  | .istore_n _ => match st with
    | .int x :: r => bif mc_nl L a then mc_set L a (some (.int x)) (fun L => mc_go (nx, L, r, h, c, n)) else none
    | _ => none
  | .istore _ => match st with
    | .int x :: r => bif mc_nl L a then mc_set L a (some (.int x)) (fun L => mc_go (nx, L, r, h, c, n)) else none
    | _ => none
  | .astore_n _ => match st with
    | .ref x :: r => bif mc_nl L a then mc_set L a (some (.ref x)) (fun L => mc_go (nx, L, r, h, c, n)) else none
    | _ => none
  | .lstore_n _ => match st with
    | .long x :: r => bif mc_nl L a then mc_set L a (some (.long x)) (fun L => mc_set L (a + 1) none (fun L => mc_go (nx, L, r, h, c, n))) else none
    | _ => none
  | .lstore _ => match st with
    | .long x :: r => bif mc_nl L a then mc_set L a (some (.long x)) (fun L => mc_set L (a + 1) none (fun L => mc_go (nx, L, r, h, c, n))) else none
    | _ => none
  | .iinc _ _ => match mc_get L a with
    | some (some (.int x)) => bif mc_nl L a then mc_set L a (some (.int (x + iv))) (fun L => mc_go (nx, L, st, h, c, n)) else none
    | _ => none
  | .iadd => match st with
    | .int y :: .int x :: r => mc_go (nx, L, .int (x + y) :: r, h, c, n)
    | _ => none
  | .isub => match st with
    | .int y :: .int x :: r => mc_go (nx, L, .int (x - y) :: r, h, c, n)
    | _ => none
  | .imul => match st with
    | .int y :: .int x :: r => mc_go (nx, L, .int (x * y) :: r, h, c, n)
    | _ => none
  | .iand => match st with
    | .int y :: .int x :: r => mc_go (nx, L, .int (x &&& y) :: r, h, c, n)
    | _ => none
  | .ior => match st with
    | .int y :: .int x :: r => mc_go (nx, L, .int (x ||| y) :: r, h, c, n)
    | _ => none
  | .ixor => match st with
    | .int y :: .int x :: r => mc_go (nx, L, .int (x ^^^ y) :: r, h, c, n)
    | _ => none
  | .ishl => match st with
    | .int y :: .int x :: r => mc_go (nx, L, .int (x <<< (y &&& 31)) :: r, h, c, n)
    | _ => none
  | .ishr => match st with
    | .int y :: .int x :: r => mc_go (nx, L, .int (x >>> (y &&& 31)) :: r, h, c, n)
    | _ => none
  | .iushr => match st with
    | .int y :: .int x :: r => mc_go (nx, L, .int ((x.toUInt32 >>> (y.toUInt32 &&& Int32.toUInt32 31)).toInt32) :: r, h, c, n)
    | _ => none
  | .idiv => match st with
    | .int y :: .int x :: r => mc_ck (decide (¬ y = 0)) (nx, L, .int (x / y) :: r, h, c, n)
    | _ => none
  | .irem => match st with
    | .int y :: .int x :: r => mc_ck (decide (¬ y = 0)) (nx, L, .int (x - x / y * y) :: r, h, c, n)
    | _ => none
  | .ladd => match st with
    | .long y :: .long x :: r => mc_go (nx, L, .long (x + y) :: r, h, c, n)
    | _ => none
  | .lmul => match st with
    | .long y :: .long x :: r => mc_go (nx, L, .long (x * y) :: r, h, c, n)
    | _ => none
  | .land => match st with
    | .long y :: .long x :: r => mc_go (nx, L, .long (x &&& y) :: r, h, c, n)
    | _ => none
  | .lor => match st with
    | .long y :: .long x :: r => mc_go (nx, L, .long (x ||| y) :: r, h, c, n)
    | _ => none
  | .ldiv => match st with
    | .long y :: .long x :: r => mc_ck (decide (¬ y = 0)) (nx, L, .long (x / y) :: r, h, c, n)
    | _ => none
  | .lrem => match st with
    | .long y :: .long x :: r => mc_ck (decide (¬ y = 0)) (nx, L, .long (x - x / y * y) :: r, h, c, n)
    | _ => none
  | .lcmp => match st with
    | .long y :: .long x :: r => mc_go (nx, L, .int (lg_cmp x y) :: r, h, c, n)
    | _ => none
  | .lshl => match st with
    | .int y :: .long x :: r => mc_go (nx, L, .long (x <<< (y.toInt64 &&& 63)) :: r, h, c, n)
    | _ => none
  | .lushr => match st with
    | .int y :: .long x :: r => mc_go (nx, L, .long (x.toUInt64 >>> (y.toInt64.toUInt64 &&& Int64.toUInt64 63)).toInt64 :: r, h, c, n)
    | _ => none
  | .ineg => match st with
    | .int x :: r => mc_go (nx, L, .int (-x) :: r, h, c, n)
    | _ => none
  | .i2l => match st with
    | .int x :: r => mc_go (nx, L, .long x.toInt64 :: r, h, c, n)
    | _ => none
  | .l2i => match st with
    | .long x :: r => mc_go (nx, L, .int x.toInt32 :: r, h, c, n)
    | _ => none
  | .i2b => match st with
    | .int x :: r => mc_go (nx, L, .int x.toInt8.toInt32 :: r, h, c, n)
    | _ => none
  | .i2s => match st with
    | .int x :: r => mc_go (nx, L, .int x.toInt16.toInt32 :: r, h, c, n)
    | _ => none
  | .dup => match st with
    | .int x :: r => mc_go (nx, L, .int x :: .int x :: r, h, c, n)
    | .ref x :: r => mc_go (nx, L, .ref x :: .ref x :: r, h, c, n)
    | _ => none
  | .dup2 => match st with
    | .int x :: .ref y :: r => mc_go (nx, L, .int x :: .ref y :: .int x :: .ref y :: r, h, c, n)
    | .long x :: r => mc_go (nx, L, .long x :: .long x :: r, h, c, n)
    | _ => none
  | .pop => match st with
    | .int _ :: r => mc_go (nx, L, r, h, c, n)
    | _ => none
  | .pop2 => match st with
    | .long _ :: r => mc_go (nx, L, r, h, c, n)
    | _ => none
  | .goto _ => mc_go (a, L, st, h, c, n)
  | .ifCond o _ => match st with
    | .int x :: r => mc_br (mc_cond o x 0) (a, L, r, h, c, n) (nx, L, r, h, c, n)
    | _ => none
  | .if_icmp o _ => match st with
    | .int y :: .int x :: r => mc_br (mc_cond o x y) (a, L, r, h, c, n) (nx, L, r, h, c, n)
    | _ => none
  | .tableswitch _ _ _ _ => match st with
    | .int x :: r => some (.inl (mc_sw x L r h c n b sw))
    | _ => none
  | .lookupswitch _ _ => match st with
    | .int x :: r => some (.inl (mc_sw x L r h c n b sw))
    | _ => none
  | .getfield _ => match st with
    | .ref i :: r => match mc_get h i with
      | some (.inr (ci, fs)) => match mc_get fs b with
        | some v => bif Nat.beq ci a then mc_go (nx, L, v :: r, h, c, n) else none
        | none => none
      | _ => none
    | _ => none
  | .putfield _ => match sw with
    | [(_, k)] => mc_putK k nx a b L st h c n
    | _ => none
  | .getstatic _ => mc_go (nx, L, .ref a :: st, h, c, n)
  | .arraylength => match st with
    | .ref q :: r => match mc_get h q with
      | some (.inl (_, len, _)) => mc_go (nx, L, .int (Int32.ofNat len) :: r, h, c, n)
      | _ => none
    | _ => none
  | .iaload => match st with
    | .int i :: .ref q :: r => bif Nat.ble 1000 q then (match mc_get mc_tabs (q - 1000) with
        | some t => mc_ck (mc_inb i t.length) (nx, L, .int (mc_tf t i.toNatClampNeg) :: r, h, c, n)
        | none => none)
      else (match mc_get h q with
        | some (.inl (0, len, .inl f)) => mc_ck (mc_inb i len) (nx, L, .int (f i.toNatClampNeg) :: r, h, c, n)
        | _ => none)
    | _ => none
  | .laload => match st with
    | .int i :: .ref q :: r => match mc_get h q with
      | some (.inl (1, len, .inr (.inl f))) => mc_ck (mc_inb i len) (nx, L, .long (f i.toNatClampNeg) :: r, h, c, n)
      | _ => none
    | _ => none
  | .baload => match st with
    | .int i :: .ref q :: r => match mc_get h q with
      | some (.inl (2, len, .inl f)) => mc_ck (mc_inb i len) (nx, L, .int (f i.toNatClampNeg) :: r, h, c, n)
      | _ => none
    | _ => none
  | .saload => match st with
    | .int i :: .ref q :: r => match mc_get h q with
      | some (.inl (3, len, .inl f)) => mc_ck (mc_inb i len) (nx, L, .int (f i.toNatClampNeg) :: r, h, c, n)
      | _ => none
    | _ => none
  | .iastore => match st with
    | .int x :: .int i :: .ref q :: r => match mc_get h q with
      | some (.inl (0, len, .inl f)) => mc_set h q (.inl (0, len, .inl (upd f i.toNatClampNeg x))) (fun h => mc_ck (mc_inb i len) (nx, L, r, h, c, n))
      | _ => none
    | _ => none
  | .lastore => match st with
    | .long x :: .int i :: .ref q :: r => match mc_get h q with
      | some (.inl (1, len, .inr (.inl f))) => mc_set h q (.inl (1, len, .inr (.inl (vp_updL f i.toNatClampNeg x)))) (fun h => mc_ck (mc_inb i len) (nx, L, r, h, c, n))
      | _ => none
    | _ => none
  | .bastore => match st with
    | .int x :: .int i :: .ref q :: r => match mc_get h q with
      | some (.inl (2, len, .inl f)) => mc_set h q (.inl (2, len, .inl (upd f i.toNatClampNeg (vp_nar .byte x)))) (fun h => mc_ck (mc_inb i len) (nx, L, r, h, c, n))
      | _ => none
    | _ => none
  | .sastore => match st with
    | .int x :: .int i :: .ref q :: r => match mc_get h q with
      | some (.inl (3, len, .inl f)) => mc_set h q (.inl (3, len, .inl (upd f i.toNatClampNeg (vp_nar .short x)))) (fun h => mc_ck (mc_inb i len) (nx, L, r, h, c, n))
      | _ => none
    | _ => none
  | .aaload => match st with
    | .int i :: .ref q :: r => match mc_get h q with
      | some (.inl (4, 8, _)) => some (.inl [(decide (i = 0), (nx, L, .ref (q + 1) :: r, h, c, n)), (decide (i = 1), (nx, L, .ref (q + 2) :: r, h, c, n)), (decide (i = 2), (nx, L, .ref (q + 3) :: r, h, c, n)), (decide (i = 3), (nx, L, .ref (q + 4) :: r, h, c, n)), (decide (i = 4), (nx, L, .ref (q + 5) :: r, h, c, n)), (decide (i = 5), (nx, L, .ref (q + 6) :: r, h, c, n)), (decide (i = 6), (nx, L, .ref (q + 7) :: r, h, c, n)), (decide (i = 7), (nx, L, .ref (q + 8) :: r, h, c, n))])
      | _ => none
    | _ => none
  | .new _ => mc_len h 0 (fun k => bif Nat.ble k 900 then mc_app h [.inr (a, vs)] (fun h => mc_go (nx, L, .ref k :: st, h, c + 1, n + b)) else none)
  | .newarray _ => match st with
    | .int m :: r => mc_len h 0 (fun k => bif Nat.ble k 900 then (match a with
        | 1 => mc_app h [.inl (1, m.toNatClampNeg, .inr (.inl (fun _ => 0)))] (fun h => mc_ck (decide (¬ m < 0 ∧ m.toNatClampNeg ≤ 60000000)) (nx, L, .ref k :: r, h, c + 1, n + m.toNatClampNeg))
        | t => mc_app h [.inl (t, m.toNatClampNeg, .inl (fun _ => 0))] (fun h => mc_ck (decide (¬ m < 0 ∧ m.toNatClampNeg ≤ 60000000)) (nx, L, .ref k :: r, h, c + 1, n + m.toNatClampNeg)))
      else none)
    | _ => none
  | .multianewarray _ _ => match st with
    | .int k9 :: .int k8 :: r => mc_len h 0 (fun k => bif Nat.ble k 900 then mc_app h [.inl (4, 8, .inl (fun _ => 0)), .inl (0, 9, .inl (fun _ => 0)), .inl (0, 9, .inl (fun _ => 0)), .inl (0, 9, .inl (fun _ => 0)), .inl (0, 9, .inl (fun _ => 0)), .inl (0, 9, .inl (fun _ => 0)), .inl (0, 9, .inl (fun _ => 0)), .inl (0, 9, .inl (fun _ => 0)), .inl (0, 9, .inl (fun _ => 0))] (fun h => mc_ck (decide (k8 = 8 ∧ k9 = 9)) (nx, L, .ref k :: r, h, c + 9, n + 80)) else none)
    | _ => none
  | .invokevirtual _ => mc_pop b st [] (fun as r => match as, sw with
    | .ref i :: _, [(_, k)] => (match mc_get h i with
      | some (.inr (ci, _)) => bif Nat.beq ci k && Nat.ble (mc_w r) 8 then some (.inr (.inl (a, as, (nx, L, r, h, c, n)))) else none
      | _ => none)
    | _, _ => none)
  | .invokespecial _ => match b with
    | 0 => (match st with
      | .ref _ :: r => bif Nat.ble (mc_w r) 8 then mc_go (nx, L, r, h, c, n) else none
      | _ => none)
    | b => mc_pop b st [] (fun as r => match as with
      | .ref _ :: _ => bif Nat.ble (mc_w r) 8 then some (.inr (.inl (a, as, (nx, L, r, h, c, n)))) else none
      | _ => none)
  | .invokestatic _ => bif Nat.beq a 100001 then (match st with
      | .int m :: .int dp :: .ref d :: .int sp :: .ref e :: r => (match mc_get h e, mc_get h d with
        | some (.inl (0, n0, .inl f)), some (.inl (0, n1, .inl g)) => mc_set h d (.inl (0, n1, .inl (va_cpy f g sp.toNatClampNeg dp.toNatClampNeg m.toNatClampNeg))) (fun h => mc_ck (decide (¬ sp < 0 ∧ ¬ dp < 0 ∧ ¬ m < 0 ∧ sp.toNatClampNeg + m.toNatClampNeg ≤ n0 ∧ dp.toNatClampNeg + m.toNatClampNeg ≤ n1) && Nat.ble (mc_w r) 8) (nx, L, r, h, c, n))
        | some (.inl (1, n0, .inr (.inl f))), some (.inl (1, n1, .inr (.inl g))) => mc_set h d (.inl (1, n1, .inr (.inl (va_cpy f g sp.toNatClampNeg dp.toNatClampNeg m.toNatClampNeg)))) (fun h => mc_ck (decide (¬ sp < 0 ∧ ¬ dp < 0 ∧ ¬ m < 0 ∧ sp.toNatClampNeg + m.toNatClampNeg ≤ n0 ∧ dp.toNatClampNeg + m.toNatClampNeg ≤ n1) && Nat.ble (mc_w r) 8) (nx, L, r, h, c, n))
        | _, _ => none)
      | _ => none)
    else mc_pop b st [] (fun as r => bif Nat.ble (mc_w r) 8 then some (.inr (.inl (a, as, (nx, L, r, h, c, n)))) else none)
  | .ireturn => match st with
    | [.int x] => (match a with
      | 0 => some (.inr (.inr (true, some (.int x))))
      | _ => some (.inr (.inr (decide (x = 0 ∨ x = 1), some (.int x)))))
    | _ => none
  | .lreturn => match st with
    | [.long x] => some (.inr (.inr (true, some (.long x))))
    | _ => none
  | .areturn => match st with
    | [.ref x] => some (.inr (.inr (true, some (.ref x))))
    | _ => none
  | .return_ => match st with
    | [] => some (.inr (.inr (true, none)))
    | _ => none
  | _ => none
def mc_step (T : List mc_En) : mc_S → Option mc_O
  | (pc, L, st, h, c, n) => match mc_fnd T pc with
    | none => none
    | some (_, ins, nx, a, b, iv, lv, sw, vs, _) => mc_stepI ins nx a b iv lv sw vs L st h c n
def mc_alt : List (Bool × mc_S) → Option mc_S
  | [] => none
  | (c, S) :: r => bif c then some S else mc_alt r
def mc_fin (b : Bool) (v : Option Value) : mc_S → Option mc_R
  | (_, _, _, h, c, n) => bif b then some (v, h, c, n) else none
def mc_aft (v : Option Value) (h' : mc_H) (c' n' : Nat) : mc_S → mc_S
  | (pc, L, st, _, c, n) => (pc, L, v.toList ++ st, h', c + c', n + n')
def mc_heap : mc_S → mc_H
  | (_, _, _, h, _, _) => h
def mc_ex (call : Nat → List Value → mc_H → Option mc_R) (T : List mc_En) : Nat → mc_S → Option mc_R
  | 0, _ => none
  | g + 1, S => match mc_step T S with
    | none => none
    | some (.inl alts) => (match mc_alt alts with
      | none => none
      | some S' => mc_ex call T g S')
    | some (.inr (.inl (y, as, S'))) => (match call y as (mc_heap S') with
      | none => none
      | some (v, h', c', n') => mc_ex call T g (mc_aft v h' c' n' S'))
    | some (.inr (.inr (b, v))) => mc_fin b v S
def mc_pad : Nat → List (Option Value) → List (Option Value)
  | 0, L => L
  | n + 1, [] => none :: mc_pad n []
  | n + 1, v :: L => v :: mc_pad n L
def mc_exp : List Value → List (Option Value)
  | [] => []
  | .long x :: r => some (.long x) :: none :: mc_exp r
  | .double x :: r => some (.double x) :: none :: mc_exp r
  | v :: r => some v :: mc_exp r
/-- a method: its name, bytes, locals, answer, table -/
abbrev mc_M : Type := MethodName × ByteArray × Nat × Option FieldType × List mc_En
def mc_run (PM : Nat → mc_M) : Nat → Nat → Nat → List Value → mc_H → Option mc_R
  | 0, _, _, _, _ => none
  | d + 1, f, y, as, h => bif Nat.ble (mc_exp as).length (PM y).2.2.1 then mc_ex (mc_run PM d f) (PM y).2.2.2.2 f (0, mc_pad (PM y).2.2.1 (mc_exp as), [], h, 0, 0) else none
def mc_stk (T : List mc_En) : Nat → mc_S → Option mc_S
  | 0, S => some S
  | k + 1, S => match mc_step T S with
    | some (.inl ((true, S') :: _)) => mc_stk T k S'
    | _ => none
