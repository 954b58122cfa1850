/-! Ints as whole numbers: normal forms for simp (disch := omega). -/
def iI (z : Int) : Int32 := Int32.ofInt z
def jJ (z : Int) : Int64 := Int64.ofInt z
theorem iI_ex (x : Int32) : ∃ z : Int, -2147483648 ≤ z ∧ z < 2147483648 ∧ x = iI z := ⟨x.toInt, by have := x.le_toInt; omega, by have := x.toInt_lt; omega, (Int32.ofInt_toInt x).symm⟩
theorem iI_int {z : Int} (h : -2147483648 ≤ z ∧ z < 2147483648) : (iI z).toInt = z := Int32.toInt_ofInt_of_le (by omega) (by omega)
theorem jJ_ex (x : Int64) : ∃ z : Int, -9223372036854775808 ≤ z ∧ z < 9223372036854775808 ∧ x = jJ z := ⟨x.toInt, by have := x.le_toInt; omega, by have := x.toInt_lt; omega, (Int64.ofInt_toInt x).symm⟩
theorem jJ_int {z : Int} (h : -9223372036854775808 ≤ z ∧ z < 9223372036854775808) : (jJ z).toInt = z := Int64.toInt_ofInt_of_le (by omega) (by omega)
theorem iI_inj {a b : Int} (h : (-2147483648 ≤ a ∧ a < 2147483648) ∧ -2147483648 ≤ b ∧ b < 2147483648) : (iI a = iI b) = (a = b) := propext ⟨fun e => by rw [← iI_int h.1, e, iI_int h.2], fun e => by rw [e]⟩
theorem jJ_inj {a b : Int} (h : (-9223372036854775808 ≤ a ∧ a < 9223372036854775808) ∧ -9223372036854775808 ≤ b ∧ b < 9223372036854775808) : (jJ a = jJ b) = (a = b) := propext ⟨fun e => by rw [← jJ_int h.1, e, jJ_int h.2], fun e => by rw [e]⟩
theorem iI_nat (n : Nat) : Int32.ofNat n = iI (n : Int) := (Int32.ofInt_eq_ofNat).symm
theorem iI_lit (n : Nat) : (OfNat.ofNat n : Int32) = iI (OfNat.ofNat n : Int) := (Int32.ofInt_eq_ofNat (n := n)).symm
theorem jJ_lit (n : Nat) : (OfNat.ofNat n : Int64) = jJ (OfNat.ofNat n : Int) := (Int64.ofInt_eq_ofNat (n := n)).symm
theorem iI_neg (a : Int) : -iI a = iI (-a) := Int32.neg_ofInt
theorem iI_add (a b : Int) : iI a + iI b = iI (a + b) := (Int32.ofInt_add a b).symm
theorem iI_sub (a b : Int) : iI a - iI b = iI (a - b) := (Int32.ofInt_sub a b).symm
theorem iI_mul (a b : Int) : iI a * iI b = iI (a * b) := (Int32.ofInt_mul a b).symm
theorem jJ_add (a b : Int) : jJ a + jJ b = jJ (a + b) := (Int64.ofInt_add a b).symm
theorem jJ_mul (a b : Int) : jJ a * jJ b = jJ (a * b) := (Int64.ofInt_mul a b).symm
theorem iI_div {a b : Int} (h : 0 ≤ a ∧ a < 2147483648 ∧ 0 < b ∧ b < 2147483648) : iI a / iI b = iI (a / b) := by
  show Int32.ofInt a / Int32.ofInt b = Int32.ofInt (a / b)
  rw [← Int.tdiv_eq_ediv_of_nonneg h.1]
  have e1 : Int32.minValue.toInt = -2147483648 := by decide
  have e2 : Int32.maxValue.toInt = 2147483647 := by decide
  refine (Int32.ofInt_tdiv ?_ ?_ ?_ ?_).symm <;> omega
theorem jJ_div {a b : Int} (h : 0 ≤ a ∧ a < 9223372036854775808 ∧ 0 < b ∧ b < 9223372036854775808) : jJ a / jJ b = jJ (a / b) := by
  show Int64.ofInt a / Int64.ofInt b = Int64.ofInt (a / b)
  rw [← Int.tdiv_eq_ediv_of_nonneg h.1]
  have e1 : Int64.minValue.toInt = -9223372036854775808 := by decide
  have e2 : Int64.maxValue.toInt = 9223372036854775807 := by decide
  refine (Int64.ofInt_tdiv ?_ ?_ ?_ ?_).symm <;> omega
theorem iI_long {a : Int} (h : -2147483648 ≤ a ∧ a < 2147483648) : (iI a).toInt64 = jJ a := by
  show (Int32.ofInt a).toInt64 = Int64.ofInt a
  have e1 : Int32.minValue.toInt = -2147483648 := by decide
  have e2 : Int32.maxValue.toInt = 2147483647 := by decide
  refine Int32.toInt64_ofInt ?_ ?_ <;> omega
theorem jJ_toI (a : Int) : (jJ a).toInt32 = iI a := Int64.toInt32_ofInt
theorem k_lt {a b : Int} (h : (-2147483648 ≤ a ∧ a < 2147483648) ∧ -2147483648 ≤ b ∧ b < 2147483648) : mc_cond .lt (iI a) (iI b) = decide (a < b) := decide_eq_decide.mpr (by rw [Int32.lt_iff_toInt_lt, iI_int h.1, iI_int h.2])
theorem k_ge {a b : Int} (h : (-2147483648 ≤ a ∧ a < 2147483648) ∧ -2147483648 ≤ b ∧ b < 2147483648) : mc_cond .ge (iI a) (iI b) = decide (b ≤ a) := decide_eq_decide.mpr (by rw [Int32.le_iff_toInt_le, iI_int h.1, iI_int h.2])
theorem k_gt {a b : Int} (h : (-2147483648 ≤ a ∧ a < 2147483648) ∧ -2147483648 ≤ b ∧ b < 2147483648) : mc_cond .gt (iI a) (iI b) = decide (b < a) := decide_eq_decide.mpr (by rw [Int32.lt_iff_toInt_lt, iI_int h.1, iI_int h.2])
theorem k_le {a b : Int} (h : (-2147483648 ≤ a ∧ a < 2147483648) ∧ -2147483648 ≤ b ∧ b < 2147483648) : mc_cond .le (iI a) (iI b) = decide (a ≤ b) := decide_eq_decide.mpr (by rw [Int32.le_iff_toInt_le, iI_int h.1, iI_int h.2])
theorem k_eq {a b : Int} (h : (-2147483648 ≤ a ∧ a < 2147483648) ∧ -2147483648 ≤ b ∧ b < 2147483648) : mc_cond .eq (iI a) (iI b) = decide (a = b) := decide_eq_decide.mpr (by rw [iI_inj h])
theorem k_ne {a b : Int} (h : (-2147483648 ≤ a ∧ a < 2147483648) ∧ -2147483648 ≤ b ∧ b < 2147483648) : mc_cond .ne (iI a) (iI b) = decide (¬ a = b) := decide_eq_decide.mpr (by rw [iI_inj h])
theorem k_cl {a : Int} (h : 0 ≤ a ∧ a < 2147483648) : (iI a).toNatClampNeg = a.toNat := Int32.toNatClampNeg_ofInt_of_le (by omega) (by omega)
theorem k_in {a : Int} {N : Nat} (h : 0 ≤ a ∧ a < (N : Int) ∧ (N : Int) < 2147483648) : mc_inb (iI a) N = true := decide_eq_true (by
  rw [k_cl (by omega), Int32.lt_iff_toInt_lt, iI_int (by omega)]
  rw [show (0 : Int32).toInt = 0 by decide]
  omega)
theorem k_cmp {a b : Int} (h : (-9223372036854775808 ≤ a ∧ a < 9223372036854775808) ∧ -9223372036854775808 ≤ b ∧ b < 9223372036854775808) : lg_cmp (jJ a) (jJ b) = iI (if b < a then 1 else if a = b then 0 else -1) := by
  have e : (jJ a > jJ b) = (b < a) := by
    show (jJ b < jJ a) = (b < a)
    rw [Int64.lt_iff_toInt_lt, jJ_int h.1, jJ_int h.2]
  unfold lg_cmp
  simp only [e, jJ_inj h]
  split
  · rfl
  · split
    · rfl
    · rfl
theorem l_lt {a b : Int} (h : (-9223372036854775808 ≤ a ∧ a < 9223372036854775808) ∧ -9223372036854775808 ≤ b ∧ b < 9223372036854775808) : mc_cond .lt (lg_cmp (jJ a) (jJ b)) (iI 0) = decide (a < b) := by
  rw [k_cmp h, k_lt (by split <;> (try split) <;> omega)]
  refine decide_eq_decide.mpr ?_
  split <;> (try split) <;> omega
theorem l_ge {a b : Int} (h : (-9223372036854775808 ≤ a ∧ a < 9223372036854775808) ∧ -9223372036854775808 ≤ b ∧ b < 9223372036854775808) : mc_cond .ge (lg_cmp (jJ a) (jJ b)) (iI 0) = decide (b ≤ a) := by
  rw [k_cmp h, k_ge (by split <;> (try split) <;> omega)]
  refine decide_eq_decide.mpr ?_
  split <;> (try split) <;> omega
theorem l_gt {a b : Int} (h : (-9223372036854775808 ≤ a ∧ a < 9223372036854775808) ∧ -9223372036854775808 ≤ b ∧ b < 9223372036854775808) : mc_cond .gt (lg_cmp (jJ a) (jJ b)) (iI 0) = decide (b < a) := by
  rw [k_cmp h, k_gt (by split <;> (try split) <;> omega)]
  refine decide_eq_decide.mpr ?_
  split <;> (try split) <;> omega
theorem l_le {a b : Int} (h : (-9223372036854775808 ≤ a ∧ a < 9223372036854775808) ∧ -9223372036854775808 ≤ b ∧ b < 9223372036854775808) : mc_cond .le (lg_cmp (jJ a) (jJ b)) (iI 0) = decide (a ≤ b) := by
  rw [k_cmp h, k_le (by split <;> (try split) <;> omega)]
  refine decide_eq_decide.mpr ?_
  split <;> (try split) <;> omega
theorem l_eq {a b : Int} (h : (-9223372036854775808 ≤ a ∧ a < 9223372036854775808) ∧ -9223372036854775808 ≤ b ∧ b < 9223372036854775808) : mc_cond .eq (lg_cmp (jJ a) (jJ b)) (iI 0) = decide (a = b) := by
  rw [k_cmp h, k_eq (by split <;> (try split) <;> omega)]
  refine decide_eq_decide.mpr ?_
  split <;> (try split) <;> omega
theorem l_ne {a b : Int} (h : (-9223372036854775808 ≤ a ∧ a < 9223372036854775808) ∧ -9223372036854775808 ≤ b ∧ b < 9223372036854775808) : mc_cond .ne (lg_cmp (jJ a) (jJ b)) (iI 0) = decide (¬ a = b) := by
  rw [k_cmp h, k_ne (by split <;> (try split) <;> omega)]
  refine decide_eq_decide.mpr ?_
  split <;> (try split) <;> omega
theorem k_upe {f : Nat → Int32} {k j : Nat} {x : Int32} (h : j = k) : upd f k x j = x := if_pos h
theorem k_upn {f : Nat → Int32} {k j : Nat} {x : Int32} (h : ¬ j = k) : upd f k x j = f j := if_neg h
theorem k_ule {f : Nat → Int64} {k j : Nat} {x : Int64} (h : j = k) : vp_updL f k x j = x := if_pos h
theorem k_uln {f : Nat → Int64} {k j : Nat} {x : Int64} (h : ¬ j = k) : vp_updL f k x j = f j := if_neg h
theorem k_wue {α : Type} {f : Nat → α} {k : Nat} {v : α} : wu f k v k = v := by
  unfold wu
  rw [Nat.beq_refl]
  rfl
theorem k_wun {α : Type} {f : Nat → α} {k j : Nat} {v : α} (h : ¬ j = k) : wu f k v j = f j := by
  unfold wu
  rw [show Nat.beq j k = false from Bool.eq_false_iff.mpr (fun q => h (Nat.eq_of_beq_eq_true q))]
  rfl
section
variable {σ : wS} {k : Nat}
theorem sI_1 {v : Int32} : (sI σ k v).1 = wu σ.1 k v := rfl
theorem sI_2 {v : Int32} : (sI σ k v).2.1 = σ.2.1 := rfl
theorem sI_3 {v : Int32} : (sI σ k v).2.2.1 = σ.2.2.1 := rfl
theorem sI_4 {v : Int32} : (sI σ k v).2.2.2 = σ.2.2.2 := rfl
theorem sJ_1 {v : Int64} : (sJ σ k v).1 = σ.1 := rfl
theorem sJ_2 {v : Int64} : (sJ σ k v).2.1 = wu σ.2.1 k v := rfl
theorem sJ_3 {v : Int64} : (sJ σ k v).2.2.1 = σ.2.2.1 := rfl
theorem sJ_4 {v : Int64} : (sJ σ k v).2.2.2 = σ.2.2.2 := rfl
theorem sA_1 {v : Nat → Int32} : (sA σ k v).1 = σ.1 := rfl
theorem sA_2 {v : Nat → Int32} : (sA σ k v).2.1 = σ.2.1 := rfl
theorem sA_3 {v : Nat → Int32} : (sA σ k v).2.2.1 = wu σ.2.2.1 k v := rfl
theorem sA_4 {v : Nat → Int32} : (sA σ k v).2.2.2 = σ.2.2.2 := rfl
theorem sB_1 {v : Nat → Int64} : (sB σ k v).1 = σ.1 := rfl
theorem sB_2 {v : Nat → Int64} : (sB σ k v).2.1 = σ.2.1 := rfl
theorem sB_3 {v : Nat → Int64} : (sB σ k v).2.2.1 = σ.2.2.1 := rfl
theorem sB_4 {v : Nat → Int64} : (sB σ k v).2.2.2 = wu σ.2.2.2 k v := rfl
end
/-! Rules by the kind of the instruction: 0 plain, 1 branch, 2 checked, 3 call, 4 end, 5 switch -/
def mc_kd0 (ins : Instr) (a b : Nat) : Nat := match ins with
  | .ifCond _ _ => 1
  | .if_icmp _ _ => 1
  | .iaload => 2
  | .laload => 2
  | .baload => 2
  | .saload => 2
  | .iastore => 2
  | .lastore => 2
  | .bastore => 2
  | .sastore => 2
  | .idiv => 2
  | .irem => 2
  | .ldiv => 2
  | .lrem => 2
  | .newarray _ => 2
  | .invokevirtual _ => 3
  | .invokespecial _ => bif Nat.beq b 0 then 0 else 3
  | .invokestatic _ => bif Nat.beq a 100001 then 2 else 3
  | .ireturn => 4
  | .lreturn => 4
  | .areturn => 4
  | .return_ => 4
  | .tableswitch _ _ _ _ => 5
  | .lookupswitch _ _ => 5
  | .aaload => 5
  | _ => 0
def mc_kd (T : List mc_En) (pc : Nat) : Nat := match mc_fnd T pc with
  | none => 9
  | some (_, ins, _, a, b, _) => mc_kd0 ins a b
def GoA (d : Nat) (T : List mc_En) (alts : List (Bool × mc_S)) (Q : mc_R → Prop) : Prop := ∃ S', mc_alt alts = some S' ∧ GoP d T S' Q
section GK
variable {d : Nat} {T : List mc_En} {S S' : mc_S} {Q : mc_R → Prop} {pc : Nat} {X : List (Option Value) × List Value × mc_H × Nat × Nat}
theorem GoP.k0 {r : List (Bool × mc_S)} (_ : mc_kd T pc = 0) (hs : mc_step T (pc, X) = some (.inl ((true, S') :: r))) (hg : GoP d T S' Q) : GoP d T (pc, X) Q := GoP.st1 hs hg
theorem GoP.k1 {b : Bool} {S1 S2 : mc_S} (_ : mc_kd T pc = 1) (hs : mc_step T (pc, X) = some (.inl [(b, S1), (true, S2)])) (h1 : b = true → GoP d T S1 Q) (h2 : b = false → GoP d T S2 Q) : GoP d T (pc, X) Q := GoP.br hs h1 h2
theorem GoP.k2 {b : Bool} (_ : mc_kd T pc = 2) (hs : mc_step T (pc, X) = some (.inl [(b, S')])) (hb : b = true) (hg : GoP d T S' Q) : GoP d T (pc, X) Q := GoP.ck hs hb hg
theorem GoP.k3 {y mL pc' c' n' : Nat} {L' : List (Option Value)} {st' : List Value} {h' : mc_H} {nm : MethodName} {by_ : ByteArray} {rt : Option FieldType} {T2 : List mc_En} {as : List Value} (_ : mc_kd T pc = 3) (hs : mc_step T (pc, X) = some (.inr (.inl (y, as, (pc', L', st', h', c', n'))))) (hy : PM y = (nm, by_, mL, rt, T2)) (hle : Nat.ble (mc_exp as).length mL = true) (hg : GoP d T2 (0, mc_pad mL (mc_exp as), [], h', 0, 0) (fun R1 => GoP (d + 1) T (pc', L', R1.1.toList ++ st', R1.2.1, c' + R1.2.2.1, n' + R1.2.2.2) Q)) : GoP (d + 1) T (pc, X) Q := GoP.enter hs hy hle hg
theorem GoP.k4 {c n : Nat} {L : List (Option Value)} {st : List Value} {h : mc_H} {b : Bool} {v : Option Value} (_ : mc_kd T pc = 4) (hs : mc_step T (pc, L, st, h, c, n) = some (.inr (.inr (b, v)))) (hb : b = true) (hQ : Q (v, h, c, n)) : GoP d T (pc, L, st, h, c, n) Q := GoP.rt hs hb hQ
theorem GoP.k5 {alts : List (Bool × mc_S)} (_ : mc_kd T pc = 5) (hs : mc_step T (pc, X) = some (.inl alts)) (hg : GoA d T alts Q) : GoP d T (pc, X) Q := by
  obtain ⟨S', h1, h2⟩ := hg
  exact GoP.al hs h1 h2
theorem GoA.t {r : List (Bool × mc_S)} (hg : GoP d T S' Q) : GoA d T ((true, S') :: r) Q := ⟨S', rfl, hg⟩
theorem GoA.f {r : List (Bool × mc_S)} (hg : GoA d T r Q) : GoA d T ((false, S') :: r) Q := hg
theorem GoA.c {b : Bool} {r : List (Bool × mc_S)} (h1 : b = true → GoP d T S' Q) (h2 : b = false → GoA d T r Q) : GoA d T ((b, S') :: r) Q := by
  cases b with
  | true => exact GoA.t (h1 rfl)
  | false => exact h2 rfl
theorem GoA.sw {x v : Int32} {L : List (Option Value)} {st : List Value} {h : mc_H} {c n d0 t : Nat} {r : List (Int32 × Nat)} (h1 : x = v → GoP d T (t, L, st, h, c, n) Q) (h2 : ¬ x = v → GoA d T (mc_sw x L st h c n d0 r) Q) : GoA d T (mc_sw x L st h c n d0 ((v, t) :: r)) Q := GoA.c (fun q => h1 (of_decide_eq_true q)) (fun q => h2 (of_decide_eq_false q))
theorem GoA.sw0 {x : Int32} {L : List (Option Value)} {st : List Value} {h : mc_H} {c n d0 : Nat} (h1 : GoP d T (d0, L, st, h, c, n) Q) : GoA d T (mc_sw x L st h c n d0 []) Q := GoA.t h1
/-- a call by a contract -/
theorem GoP.kc {y pc' c' n' : Nat} {L' : List (Option Value)} {st' : List Value} {h' : mc_H} {as : List Value} {Q1 : mc_R → Prop} (hs : mc_step T (pc, X) = some (.inr (.inl (y, as, (pc', L', st', h', c', n'))))) (hE : EvP d y as h' Q1) (hg : ∀ R1, Q1 R1 → GoP d T (pc', L', R1.1.toList ++ st', R1.2.1, c' + R1.2.2.1, n' + R1.2.2.2) Q) : GoP d T (pc, X) Q := GoP.callP hs hE hg
/-- a call by a contract that tells all -/
theorem GoP.ke {y pc' c' n' c1 n1 : Nat} {L' : List (Option Value)} {st' : List Value} {h' h1 : mc_H} {v : Option Value} {as : List Value} (hs : mc_step T (pc, X) = some (.inr (.inl (y, as, (pc', L', st', h', c', n'))))) (hE : EvP d y as h' (fun R => R = (v, h1, c1, n1))) (hg : GoP d T (pc', L', v.toList ++ st', h1, c' + c1, n' + n1) Q) : GoP d T (pc, X) Q := GoP.callP hs hE (fun R1 e => by rw [e]; exact hg)
end GK
theorem EvP.kof {d y mL : Nat} {nm : MethodName} {by_ : ByteArray} {rt : Option FieldType} {T : List mc_En} {as : List Value} {h : mc_H} {Q : mc_R → Prop} (hy : PM y = (nm, by_, mL, rt, T)) (hle : Nat.ble (mc_exp as).length mL = true) (hg : GoP d T (0, mc_pad mL (mc_exp as), [], h, 0, 0) Q) : EvP (d + 1) y as h Q := EvP.of hy hle hg
/-- where a walk holds -/
def Hold (P : Prop) : Prop := P
theorem Hold.of {P : Prop} (h : Hold P) : P := h
