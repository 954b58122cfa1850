/-! Bits, and cells behind the sixty-five. -/
theorem iI_and (a b : Nat) : iI (a : Int) &&& iI (b : Int) = iI ((a &&& b : Nat) : Int) := by
  rw [← iI_nat, ← iI_nat, ← iI_nat]
  refine Int32.toBitVec.inj ?_
  show BitVec.ofNat 32 a &&& BitVec.ofNat 32 b = BitVec.ofNat 32 (a &&& b)
  rw [BitVec.ofNat_and]
theorem iI_or (a b : Nat) : iI (a : Int) ||| iI (b : Int) = iI ((a ||| b : Nat) : Int) := by
  rw [← iI_nat, ← iI_nat, ← iI_nat]
  refine Int32.toBitVec.inj ?_
  show BitVec.ofNat 32 a ||| BitVec.ofNat 32 b = BitVec.ofNat 32 (a ||| b)
  rw [BitVec.ofNat_or]
theorem kb_bit0 : ∀ a, a < 64 → ∀ s, s < 6 → (Int32.ofNat a >>> (Int32.ofNat s &&& 31)) &&& 1 = Int32.ofNat (bif a.testBit s then 1 else 0) := by decide +kernel
theorem kb_bit {a s : Nat} (h : a < 64 ∧ s < 6) : (iI (a : Int) >>> (iI (s : Int) &&& iI 31)) &&& iI 1 = iI ((bif a.testBit s then 1 else 0 : Nat) : Int) := by
  have := kb_bit0 a h.1 s h.2
  rw [iI_nat, iI_nat, iI_nat, iI_lit, iI_lit] at this
  exact this
theorem kb_shl0 : ∀ s, s < 6 → (1 : Int32) <<< (Int32.ofNat s &&& 31) = Int32.ofNat (2 ^ s) := by decide +kernel
theorem kb_shl {s : Nat} (h : s < 6) : iI 1 <<< (iI (s : Int) &&& iI 31) = iI ((2 ^ s : Nat) : Int) := by
  have := kb_shl0 s h
  rw [iI_nat, iI_nat, iI_lit, iI_lit] at this
  exact this
theorem kb_b2n (b : Bool) : ((bif b then 1 else 0 : Nat) = 0) = (b = false) := by cases b <;> simp
/-- q holds five sorts and, above them, whether it runs -/
theorem kb_seen0 : ∀ q, q < 64 → ∀ s, s < 32 → (q &&& (s ||| 32)) < 64 ∧ (q &&& (s ||| 32)) % 32 = (q % 32) &&& s ∧ (q &&& (s ||| 32)) / 32 = q / 32 := by decide +kernel
theorem kb_next0 : ∀ q, q < 64 → ∀ b, b < 32 → ∀ r, r < 2 → ((q ||| b) ||| (r * 32)) < 64 ∧ ((q ||| b) ||| (r * 32)) % 32 = (q % 32) ||| b ∧ ((q ||| b) ||| (r * 32)) / 32 = (q / 32) ||| r := by decide +kernel
theorem kb_low0 : ∀ q, q < 64 → ∀ s, s < 5 → q.testBit s = (q % 32).testBit s := by decide +kernel
theorem kb_pow : ∀ s, s < 5 → 2 ^ s < 32 := by decide
theorem kb_or5 : ∀ a, a < 32 → ∀ b, b < 32 → a ||| b < 32 := by decide +kernel
theorem kb_and5 : ∀ a, a < 32 → ∀ b, b < 32 → a &&& b < 32 := by decide +kernel
theorem syB_lt {B : Nat → Nat} (hB : ∀ s, s < 5 → B s ≤ 31) {s : Nat} (hs : s < 5) : syB B s < 32 := by
  unfold syB
  have h0 := hB s hs
  refine kb_or5 _ (kb_or5 _ (kb_or5 _ (kb_or5 _ (kb_or5 _ (by omega) _ ?_) _ ?_) _ ?_) _ ?_) _ ?_
  · cases (B 0).testBit s <;> decide
  · cases (B 1).testBit s <;> decide
  · cases (B 2).testBit s <;> decide
  · cases (B 3).testBit s <;> decide
  · cases (B 4).testBit s <;> decide
theorem mkX_app (w : Bool) (tl : mc_H) (kd : Nat) (σ : wS) : mkX w tl kd σ = mkX w [] kd σ ++ tl := rfl
theorem mkX_len (w : Bool) (kd : Nat) (σ : wS) : (mkX w [] kd σ).length = 65 := rfl
theorem mkX_get (w : Bool) (tl : mc_H) (kd : Nat) (σ : wS) (k : Nat) : mc_get (mkX w tl kd σ) (65 + k) = tl[k]? := by
  rw [mc_get_eq, mkX_app, List.getElem?_append_right (by rw [mkX_len]; omega), mkX_len, Nat.add_sub_cancel_left]
theorem mkX_set (w : Bool) (tl : mc_H) (kd : Nat) (σ : wS) (k : Nat) (v : va_E) : (mkX w tl kd σ).set (65 + k) v = mkX w (tl.set k v) kd σ := by
  rw [mkX_app, List.set_append_right _ _ (by rw [mkX_len]; omega), mkX_len, Nat.add_sub_cancel_left]
  rfl
theorem mc_step_of {T : List mc_En} {pc p0 nx a b c n : Nat} {ins : Instr} {iv : Int32} {lv : Int64} {sw : List (Int32 × Nat)} {vs : List Value} {ps : List Nat} {L : List (Option Value)} {st : List Value} {h : mc_H} (hf : mc_fnd T pc = some (p0, ins, nx, a, b, iv, lv, sw, vs, ps)) : mc_step T (pc, L, st, h, c, n) = mc_stepI ins nx a b iv lv sw vs L st h c n := by
  show (match mc_fnd T pc with
    | none => none
    | some (_, ins, nx, a, b, iv, lv, sw, vs, _) => mc_stepI ins nx a b iv lv sw vs L st h c n) = _
  rw [hf]
section GL
variable {d : Nat} {T : List mc_En} {Q : mc_R → Prop} {pc p0 nx a b q len c n : Nat} {iv : Int32} {lv : Int64} {sw : List (Int32 × Nat)} {vs : List Value} {ps : List Nat} {L : List (Option Value)} {r : List Value} {h : mc_H} {i : Int32} {f : Nat → Int64}
theorem GoP.kla (hf : mc_fnd T pc = some (p0, .laload, nx, a, b, iv, lv, sw, vs, ps)) (hg : mc_get h q = some (.inl (1, len, .inr (.inl f)))) (hb : mc_inb i len = true) (hG : GoP d T (nx, L, .long (f i.toNatClampNeg) :: r, h, c, n) Q) : GoP d T (pc, L, .int i :: .ref q :: r, h, c, n) Q := by
  refine GoP.ck (b := mc_inb i len) ?_ hb hG
  rw [mc_step_of hf]
  show (match mc_get h q with | some (.inl (1, len, .inr (.inl f))) => mc_ck (mc_inb i len) (nx, L, .long (f i.toNatClampNeg) :: r, h, c, n) | _ => none) = _
  rw [hg]
  rfl
theorem GoP.kls {x : Int64} (hf : mc_fnd T pc = some (p0, .lastore, nx, a, b, iv, lv, sw, vs, ps)) (hg : mc_get h q = some (.inl (1, len, .inr (.inl f)))) (hb : mc_inb i len = true) (hG : GoP d T (nx, L, r, h.set q (.inl (1, len, .inr (.inl (vp_updL f i.toNatClampNeg x)))), c, n) Q) : GoP d T (pc, L, .long x :: .int i :: .ref q :: r, h, c, n) Q := by
  refine GoP.ck (b := mc_inb i len) ?_ hb hG
  rw [mc_step_of hf]
  show (match mc_get h q with | some (.inl (1, len, .inr (.inl f))) => mc_set h q (.inl (1, len, .inr (.inl (vp_updL f i.toNatClampNeg x)))) (fun h => mc_ck (mc_inb i len) (nx, L, r, h, c, n)) | _ => none) = _
  rw [hg]
  show mc_set h q (.inl (1, len, .inr (.inl (vp_updL f i.toNatClampNeg x)))) (fun h => mc_ck (mc_inb i len) (nx, L, r, h, c, n)) = _
  rw [mc_set_eq]
  rfl
theorem GoP.kal {g : (Nat → Int32) ⊕ (Nat → Int64) ⊕ (Nat → UInt32) ⊕ (Nat → UInt64) ⊕ (Nat → Option Nat)} {t : Nat} (hf : mc_fnd T pc = some (p0, .arraylength, nx, a, b, iv, lv, sw, vs, ps)) (hg : mc_get h q = some (.inl (t, len, g))) (hG : GoP d T (nx, L, .int (Int32.ofNat len) :: r, h, c, n) Q) : GoP d T (pc, L, .ref q :: r, h, c, n) Q := by
  refine GoP.ck (b := true) ?_ rfl hG
  rw [mc_step_of hf]
  show (match mc_get h q with | some (.inl (_, len, _)) => mc_go (nx, L, .int (Int32.ofNat len) :: r, h, c, n) | _ => none) = _
  rw [hg]
  rfl
theorem GoP.knl {m : Int32} {b0 : Jvm.ClassFile.ArrayType} (hf : mc_fnd T pc = some (p0, .newarray b0, nx, 1, b, iv, lv, sw, vs, ps)) (hl : h.length ≤ 900) (hm : ¬ m < 0 ∧ m.toNatClampNeg ≤ 60000000) (hG : GoP d T (nx, L, .ref h.length :: r, h ++ [.inl (1, m.toNatClampNeg, .inr (.inl (fun _ => 0)))], c + 1, n + m.toNatClampNeg) Q) : GoP d T (pc, L, .int m :: r, h, c, n) Q := by
  refine GoP.ck (b := decide (¬ m < 0 ∧ m.toNatClampNeg ≤ 60000000)) ?_ (decide_eq_true hm) hG
  rw [mc_step_of hf]
  show mc_len h 0 (fun k => bif Nat.ble k 900 then mc_app h [.inl (1, m.toNatClampNeg, .inr (.inl (fun _ => 0)))] (fun h => mc_ck (decide (¬ m < 0 ∧ m.toNatClampNeg ≤ 60000000)) (nx, L, .ref k :: r, h, c + 1, n + m.toNatClampNeg)) else none) = _
  rw [mc_len_eq, Nat.zero_add, Nat.ble_eq.mpr hl, mc_app_eq]
  rfl
theorem GoP.kcl {b0 n0 n1 q0 q1 : Nat} {sp dp m : Int32} {f0 f1 : Nat → Int64} (hf : mc_fnd T pc = some (p0, .invokestatic b0, nx, 100001, b, iv, lv, sw, vs, ps)) (hg0 : mc_get h q0 = some (.inl (1, n0, .inr (.inl f0)))) (hg1 : mc_get h q1 = some (.inl (1, n1, .inr (.inl f1)))) (hm : ¬ sp < 0 ∧ ¬ dp < 0 ∧ ¬ m < 0 ∧ sp.toNatClampNeg + m.toNatClampNeg ≤ n0 ∧ dp.toNatClampNeg + m.toNatClampNeg ≤ n1) (hw : Nat.ble (mc_w r) 8 = true) (hG : GoP d T (nx, L, r, h.set q1 (.inl (1, n1, .inr (.inl (va_cpy f0 f1 sp.toNatClampNeg dp.toNatClampNeg m.toNatClampNeg)))), c, n) Q) : GoP d T (pc, L, .int m :: .int dp :: .ref q1 :: .int sp :: .ref q0 :: r, h, c, n) Q := by
  refine GoP.ck (b := decide (¬ sp < 0 ∧ ¬ dp < 0 ∧ ¬ m < 0 ∧ sp.toNatClampNeg + m.toNatClampNeg ≤ n0 ∧ dp.toNatClampNeg + m.toNatClampNeg ≤ n1) && Nat.ble (mc_w r) 8) ?_ (by rw [hw, decide_eq_true hm]; rfl) hG
  rw [mc_step_of hf]
  show (match mc_get h q0, mc_get h q1 with
        | some (.inl (0, n0, .inl f)), some (.inl (0, n1, .inl g)) => mc_set h q1 (.inl (0, n1, .inl (va_cpy f g sp.toNatClampNeg dp.toNatClampNeg m.toNatClampNeg))) (fun h => mc_ck (decide (¬ sp < 0 ∧ ¬ dp < 0 ∧ ¬ m < 0 ∧ sp.toNatClampNeg + m.toNatClampNeg ≤ n0 ∧ dp.toNatClampNeg + m.toNatClampNeg ≤ n1) && Nat.ble (mc_w r) 8) (nx, L, r, h, c, n))
        | some (.inl (1, n0, .inr (.inl f))), some (.inl (1, n1, .inr (.inl g))) => mc_set h q1 (.inl (1, n1, .inr (.inl (va_cpy f g sp.toNatClampNeg dp.toNatClampNeg m.toNatClampNeg)))) (fun h => mc_ck (decide (¬ sp < 0 ∧ ¬ dp < 0 ∧ ¬ m < 0 ∧ sp.toNatClampNeg + m.toNatClampNeg ≤ n0 ∧ dp.toNatClampNeg + m.toNatClampNeg ≤ n1) && Nat.ble (mc_w r) 8) (nx, L, r, h, c, n))
        | _, _ => none) = _
  rw [hg0, hg1]
  show mc_set h q1 (.inl (1, n1, .inr (.inl (va_cpy f0 f1 sp.toNatClampNeg dp.toNatClampNeg m.toNatClampNeg)))) (fun h => mc_ck (decide (¬ sp < 0 ∧ ¬ dp < 0 ∧ ¬ m < 0 ∧ sp.toNatClampNeg + m.toNatClampNeg ≤ n0 ∧ dp.toNatClampNeg + m.toNatClampNeg ≤ n1) && Nat.ble (mc_w r) 8) (nx, L, r, h, c, n)) = _
  rw [mc_set_eq]
  rfl
end GL
