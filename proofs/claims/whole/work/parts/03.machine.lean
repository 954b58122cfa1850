/-! A small machine over a small heap: cells by number, arrays as functions. It runs a table of entries (pc, instruction, next pc, a, b, int, long, switch, values, places of words). -/
abbrev mc_En : Type := Nat × Instr × Nat × Nat × Nat × Int32 × Int64 × List (Int32 × Nat) × List Value × List Nat
abbrev mc_H : Type := List va_E
abbrev mc_S : Type := Nat × List (Option Value) × List Value × mc_H × Nat × Nat
abbrev mc_R : Type := Option Value × mc_H × Nat × Nat
abbrev mc_O : Type := List (Bool × mc_S) ⊕ ((Nat × List Value × mc_S) ⊕ Option Value)
def mc_get {α : Type} : List α → Nat → Option α
  | [], _ => none
  | x :: _, 0 => some x
  | _ :: r, n + 1 => mc_get r n
def mc_set {α β : Type} : List α → Nat → α → (List α → β) → β
  | [], _, _, k => k []
  | _ :: r, 0, v, k => k (v :: r)
  | x :: r, n + 1, v, k => mc_set r n v (fun q => k (x :: q))
def mc_app {α β : Type} : List α → List α → (List α → β) → β
  | [], r, k => k r
  | x :: h, r, k => mc_app h r (fun q => k (x :: q))
def mc_len {α β : Type} : List α → Nat → (Nat → β) → β
  | [], n, k => k n
  | _ :: r, n, k => mc_len r (n + 1) k
def mc_fnd : List mc_En → Nat → Option mc_En
  | [], _ => none
  | e :: r, pc => bif Nat.beq e.1 pc then some e else mc_fnd r pc
def mc_go (S : mc_S) : Option mc_O := some (.inl [(true, S)])
def mc_ck (b : Bool) (S : mc_S) : Option mc_O := some (.inl [(b, S)])
def mc_br (b : Bool) (S1 S2 : mc_S) : Option mc_O := some (.inl [(b, S1), (true, S2)])
def mc_inb (i : Int32) (n : Nat) : Bool := decide (¬ (i < 0 ∨ n ≤ i.toNatClampNeg))
/-- the local ahead of i is no long -/
def mc_nl (L : List (Option Value)) : Nat → Bool
  | 0 => true
  | i + 1 => match mc_get L i with
    | some (some (.long _)) => false
    | some (some (.double _)) => false
    | _ => true
def mc_cond (o : Jvm.ClassFile.Cond) (x y : Int32) : Bool := match o with
  | .eq => decide (x = y)
  | .ne => decide (¬ x = y)
  | .lt => decide (x < y)
  | .ge => decide (y ≤ x)
  | .gt => decide (y < x)
  | .le => decide (x ≤ y)
/-- the static tables -/
def mc_tabs : List (List Int32) := [[5, 1, 3, 4, 0, 0, 10, 12, 20, 0], [0, 0, 1, 0, 0, 0, 0, 0, 1, 0], [20, 9, 9, 9, 4, 1, 99, 12, 60, 31], [-1, 0, 0, 2, 1, 3, 0, 6], [1, 10, 11, 2, 20, 0, 0, 0, 0, 30, 0, 0, 0, 41, 40, 0, 0, 0, 0, 50, 0, 0, 60, 61, 70, 0, 0, 0, 81, 80, 0, 0]]
def mc_tf (l : List Int32) (j : Nat) : Int32 := l.getD j 0
def mc_sw (x : Int32) (L : List (Option Value)) (st : List Value) (h : mc_H) (c n d : Nat) : List (Int32 × Nat) → List (Bool × mc_S)
  | [] => [(true, (d, L, st, h, c, n))]
  | (v, t) :: r => (decide (x = v), (t, L, st, h, c, n)) :: mc_sw x L st h c n d r
/-- the arguments: the topmost last -/
def mc_pop {β : Type} : Nat → List Value → List Value → (List Value → List Value → Option β) → Option β
  | 0, st, as, k => k as st
  | n + 1, v :: st, as, k => mc_pop n st (v :: as) k
  | _ + 1, [], _, _ => none
def mc_w (st : List Value) : Nat := (st.map fun v => v.category).sum
def mc_stepI (ins : Instr) (nx a b : Nat) (iv : Int32) (lv : Int64) (sw : List (Int32 × Nat)) (vs : List Value) (L : List (Option Value)) (st : List Value) (h : mc_H) (c n : Nat) : Option mc_O := match ins with
  | .iconst _ => mc_go (nx, L, .int iv :: st, h, c, n)
  | .bipush _ => mc_go (nx, L, .int iv :: st, h, c, n)
  | .sipush _ => mc_go (nx, L, .int iv :: st, h, c, n)
  | .ldc _ => mc_go (nx, L, .int iv :: st, h, c, n)
  | .ldc_w _ => mc_go (nx, L, .int iv :: st, h, c, n)
  | .lconst _ => mc_go (nx, L, .long lv :: st, h, c, n)
  | .ldc2_w _ => mc_go (nx, L, .long lv :: st, h, c, n)
  | .iload_n _ => match mc_get L a with
    | some (some (.int x)) => mc_go (nx, L, .int x :: st, h, c, n)
    | _ => none
  | .iload _ => match mc_get L a with
    | some (some (.int x)) => mc_go (nx, L, .int x :: st, h, c, n)
    | _ => none
  | .lload_n _ => match mc_get L a with
    | some (some (.long x)) => mc_go (nx, L, .long x :: st, h, c, n)
    | _ => none
  | .lload _ => match mc_get L a with
    | some (some (.long x)) => mc_go (nx, L, .long x :: st, h, c, n)
    | _ => none
  | .aload_n _ => match mc_get L a with
    | some (some (.ref x)) => mc_go (nx, L, .ref x :: st, h, c, n)
    | _ => none
  | .aload _ => match mc_get L a with
    | some (some (.ref x)) => mc_go (nx, L, .ref x :: st, h, c, n)
    | _ => none
  | .istore_n _ => match st with
    | .int x :: r => bif mc_nl L a then mc_set L a (some (.int x)) (fun L => mc_go (nx, L, r, h, c, n)) else none
    | _ => none
  | .istore _ => match st with
    | .int x :: r => bif mc_nl L a then mc_set L a (some (.int x)) (fun L => mc_go (nx, L, r, h, c, n)) else none
    | _ => none
  | .astore_n _ => match st with
    | .ref x :: r => bif mc_nl L a then mc_set L a (some (.ref x)) (fun L => mc_go (nx, L, r, h, c, n)) else none
    | _ => none
  | .lstore_n _ => match st with
    | .long x :: r => bif mc_nl L a then mc_set L a (some (.long x)) (fun L => mc_set L (a + 1) none (fun L => mc_go (nx, L, r, h, c, n))) else none
    | _ => none
  | .lstore _ => match st with
    | .long x :: r => bif mc_nl L a then mc_set L a (some (.long x)) (fun L => mc_set L (a + 1) none (fun L => mc_go (nx, L, r, h, c, n))) else none
    | _ => none
  | .iinc _ _ => match mc_get L a with
    | some (some (.int x)) => bif mc_nl L a then mc_set L a (some (.int (x + iv))) (fun L => mc_go (nx, L, st, h, c, n)) else none
    | _ => none
  | .iadd => match st with
    | .int y :: .int x :: r => mc_go (nx, L, .int (x + y) :: r, h, c, n)
    | _ => none
  | .isub => match st with
    | .int y :: .int x :: r => mc_go (nx, L, .int (x - y) :: r, h, c, n)
    | _ => none
  | .imul => match st with
    | .int y :: .int x :: r => mc_go (nx, L, .int (x * y) :: r, h, c, n)
    | _ => none
  | .iand => match st with
    | .int y :: .int x :: r => mc_go (nx, L, .int (x &&& y) :: r, h, c, n)
    | _ => none
  | .ior => match st with
    | .int y :: .int x :: r => mc_go (nx, L, .int (x ||| y) :: r, h, c, n)
    | _ => none
  | .ixor => match st with
    | .int y :: .int x :: r => mc_go (nx, L, .int (x ^^^ y) :: r, h, c, n)
    | _ => none
  | .ineg => match st with
    | .int x :: r => mc_go (nx, L, .int (-x) :: r, h, c, n)
    | _ => none
  | .idiv => match st with
    | .int y :: .int x :: r => mc_ck (decide (¬ y = 0)) (nx, L, .int (x / y) :: r, h, c, n)
    | _ => none
  | .irem => match st with
    | .int y :: .int x :: r => mc_ck (decide (¬ y = 0)) (nx, L, .int (x % y) :: r, h, c, n)
    | _ => none
  | .ishl => match st with
    | .int y :: .int x :: r => mc_go (nx, L, .int (x <<< y) :: r, h, c, n)
    | _ => none
  | .ishr => match st with
    | .int y :: .int x :: r => mc_go (nx, L, .int (x >>> y) :: r, h, c, n)
    | _ => none
  | .goto _ => mc_go (a, L, st, h, c, n)
  | .ifCond o _ => match st with
    | .int x :: r => mc_br (mc_cond o x 0) (a, L, r, h, c, n) (nx, L, r, h, c, n)
    | _ => none
  | .if_icmp o _ => match st with
    | .int y :: .int x :: r => mc_br (mc_cond o x y) (a, L, r, h, c, n) (nx, L, r, h, c, n)
    | _ => none
  | .getfield _ => match st with
    | .ref i :: r => match mc_get h i with
      | some (.inr (ci, fs)) => match mc_get fs b with
        | some v => bif Nat.beq ci a then mc_go (nx, L, v :: r, h, c, n) else none
        | none => none
      | _ => none
    | _ => none
  | .ireturn => match st with
    | [.int x] => some (.inr (.inr (some (.int x))))
    | _ => none
  | .return_ => match st with
    | [] => some (.inr (.inr none))
    | _ => none
  | .iaload => match st with
    | .int i :: .ref q :: r => bif Nat.ble 1000 q then (match mc_get mc_tabs (q - 1000) with
        | some t => mc_ck (mc_inb i t.length) (nx, L, .int (mc_tf t i.toNatClampNeg) :: r, h, c, n)
        | none => none)
      else (match mc_get h q with
        | some (.inl (0, len, .inl f)) => mc_ck (mc_inb i len) (nx, L, .int (f i.toNatClampNeg) :: r, h, c, n)
        | _ => none)
    | _ => none
  | .iastore => match st with
    | .int x :: .int i :: .ref q :: r => match mc_get h q with
      | some (.inl (0, len, .inl f)) => mc_set h q (.inl (0, len, .inl (upd f i.toNatClampNeg x))) (fun h => mc_ck (mc_inb i len) (nx, L, r, h, c, n))
      | _ => none
    | _ => none
  | .putfield _ => match st with
    | v :: .ref i :: r => match mc_get h i with
      | some (.inr (ci, fs)) => bif Nat.beq ci a then mc_set fs b v (fun fs => mc_set h i (.inr (ci, fs)) (fun h => mc_go (nx, L, r, h, c, n))) else none
      | _ => none
    | _ => none
  | _ => none
def mc_step (T : List mc_En) : mc_S → Option mc_O
  | (pc, L, st, h, c, n) => match mc_fnd T pc with
    | none => none
    | some (_, ins, nx, a, b, iv, lv, sw, vs, _) => mc_stepI ins nx a b iv lv sw vs L st h c n
def mc_alt : List (Bool × mc_S) → Option mc_S
  | [] => none
  | (c, S) :: r => bif c then some S else mc_alt r
def mc_stk (T : List mc_En) : Nat → mc_S → Option mc_S
  | 0, S => some S
  | k + 1, S => match mc_step T S with
    | some (.inl ((true, S') :: _)) => mc_stk T k S'
    | _ => none
def mc_tst : List mc_En := [(0, .aload_n 0, 1, 0, 0, 0, 0, [], [], []), (1, .getfield 5, 4, 3, 2, 0, 0, [], [], []), (4, .istore_n 2, 5, 2, 0, 0, 0, [], [], []), (5, .aload_n 0, 6, 0, 0, 0, 0, [], [], []), (6, .iload_n 2, 7, 2, 0, 0, 0, [], [], []), (7, .iload_n 1, 8, 1, 0, 0, 0, [], [], []), (8, .iadd, 9, 0, 0, 0, 0, [], [], []), (9, .putfield 5, 12, 3, 2, 0, 0, [], [], []), (12, .iload_n 2, 13, 2, 0, 0, 0, [], [], []), (13, .ifCond .eq 7, 16, 20, 0, 0, 0, [], [], [])]
def mc_tsh (x y : Int32) (f : Nat → Int32) (t : mc_H) : mc_H := .inr (7, [.int 0]) :: .inl (0, 9, .inl f) :: .inl (0, 9, .inl f) :: .inl (0, 9, .inl f) :: .inl (0, 9, .inl f) :: .inl (0, 9, .inl f) :: .inl (0, 9, .inl f) :: .inl (0, 9, .inl f) :: .inl (0, 9, .inl f) :: .inl (0, 9, .inl f) :: .inl (0, 9, .inl f) :: .inl (0, 9, .inl f) :: .inl (0, 9, .inl f) :: .inl (0, 9, .inl f) :: .inl (0, 9, .inl f) :: .inl (0, 9, .inl f) :: .inl (0, 9, .inl f) :: .inl (0, 9, .inl f) :: .inl (0, 9, .inl f) :: .inl (0, 9, .inl f) :: .inl (0, 9, .inl f) :: .inl (0, 9, .inl f) :: .inl (0, 9, .inl f) :: .inl (0, 9, .inl f) :: .inl (0, 9, .inl f) :: .inl (0, 9, .inl f) :: .inl (0, 9, .inl f) :: .inl (0, 9, .inl f) :: .inl (0, 9, .inl f) :: .inl (0, 9, .inl f) :: .inl (0, 9, .inl f) :: .inl (0, 9, .inl f) :: .inl (0, 9, .inl f) :: .inr (3, [.null, .int x, .int y]) :: t
theorem mc_tst1 (x y z : Int32) (f : Nat → Int32) (t : mc_H) : ∃ S, mc_stk mc_tst 9 (0, [some (.ref 33), some (.int z), none, none], [], mc_tsh x y f t, 0, 0) = some S ∧ S.2.2.1 = [.int y] ∧ mc_get S.2.2.2.1 33 = some (.inr (3, [.null, .int x, .int (y + z)])) := by
  refine ⟨_, rfl, ?_⟩
  exact ⟨rfl, rfl⟩
theorem mc_tst2 (x y z : Int32) (f : Nat → Int32) (t : mc_H) : mc_stk mc_tst 9 (0, [some (.ref 33), some (.int z), none, none], [], mc_tsh x y f t, 0, 0) = some (13, [some (.ref 33), some (.int z), some (.int y), none], [.int y], mc_tsh x (y + z) f t, 0, 0) := rfl
