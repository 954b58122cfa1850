/-! Hoare's way over the small machine: a run that ends in a state with Q. -/
def GoP (d : Nat) (T : List mc_En) (S : mc_S) (Q : mc_R → Prop) : Prop := ∃ R, Go d T S R ∧ Q R
def EvP (d y : Nat) (as : List Value) (h : mc_H) (Q : mc_R → Prop) : Prop := ∃ R, Ev d y as h R ∧ Q R
section GP
variable {d : Nat} {T : List mc_En} {S S' : mc_S} {Q : mc_R → Prop}
theorem GoP.st1 {r : List (Bool × mc_S)} (hs : mc_step T S = some (.inl ((true, S') :: r))) (hg : GoP d T S' Q) : GoP d T S Q := hg.elim fun R h => ⟨R, h.1.st1 hs, h.2⟩
theorem GoP.al {alts : List (Bool × mc_S)} (hs : mc_step T S = some (.inl alts)) (ha : mc_alt alts = some S') (hg : GoP d T S' Q) : GoP d T S Q := hg.elim fun R h => ⟨R, Go.al hs ha h.1, h.2⟩
theorem GoP.ck {b : Bool} (hs : mc_step T S = some (.inl [(b, S')])) (hb : b = true) (hg : GoP d T S' Q) : GoP d T S Q := hg.elim fun R h => ⟨R, Go.ck hs hb h.1, h.2⟩
theorem GoP.br {b : Bool} {S1 S2 : mc_S} (hs : mc_step T S = some (.inl [(b, S1), (true, S2)])) (h1 : b = true → GoP d T S1 Q) (h2 : b = false → GoP d T S2 Q) : GoP d T S Q := by
  cases b with
  | true => exact GoP.al hs rfl (h1 rfl)
  | false => exact GoP.al hs rfl (h2 rfl)
theorem GoP.call {y : Nat} {as : List Value} {R1 : mc_R} (hs : mc_step T S = some (.inr (.inl (y, as, S')))) (hE : Ev d y as (mc_heap S') R1) (hg : GoP d T (mc_aft R1.1 R1.2.1 R1.2.2.1 R1.2.2.2 S') Q) : GoP d T S Q := hg.elim fun R h => ⟨R, Go.call hs hE h.1, h.2⟩
theorem GoP.callP {y : Nat} {as : List Value} {Q1 : mc_R → Prop} (hs : mc_step T S = some (.inr (.inl (y, as, S')))) (hE : EvP d y as (mc_heap S') Q1) (hg : ∀ R1, Q1 R1 → GoP d T (mc_aft R1.1 R1.2.1 R1.2.2.1 R1.2.2.2 S') Q) : GoP d T S Q := hE.elim fun R1 h => GoP.call hs h.1 (hg R1 h.2)
theorem GoP.ret {b : Bool} {v : Option Value} (hs : mc_step T S = some (.inr (.inr (b, v)))) (hb : b = true) (hQ : Q (v, S.2.2.2.1, S.2.2.2.2.1, S.2.2.2.2.2)) : GoP d T S Q := ⟨_, Go.ret hs hb rfl, hQ⟩
theorem EvP.of {y mL : Nat} {nm : MethodName} {by_ : ByteArray} {rt : Option FieldType} {as : List Value} {h : mc_H} (hy : PM y = (nm, by_, mL, rt, T)) (hle : Nat.ble (mc_exp as).length mL = true) (hg : GoP d T (0, mc_pad mL (mc_exp as), [], h, 0, 0) Q) : EvP (d + 1) y as h Q := hg.elim fun R hR => ⟨R, Ev.of hy hle hR.1, hR.2⟩
theorem EvP.ev {y : Nat} {as : List Value} {h : mc_H} {R : mc_R} (hE : EvP d y as h (fun R' => R' = R)) : Ev d y as h R := by
  obtain ⟨R', h1, rfl⟩ := hE
  exact h1
theorem Go.ev {R : mc_R} (hg : GoP d T S (fun R' => R' = R)) : Go d T S R := by
  obtain ⟨R', h1, rfl⟩ := hg
  exact h1
end GP
/-! numbers -/
def b2 (b : Bool) : Int32 := bif b then 1 else 0
theorem b2_or (b : Bool) : decide (b2 b = 0 ∨ b2 b = 1) = true := by cases b <;> decide
theorem b2_eq (b : Bool) : decide (b2 b = 0) = !b := by cases b <;> decide
theorem b2_ne (b : Bool) : decide (¬ b2 b = 0) = b := by cases b <;> decide
/-- an int that is a natural number below N -/
theorem i_nat {x : Int32} {N : Nat} (hN : N < 2 ^ 31) (h0 : ¬ x < 0) (h1 : ¬ Int32.ofNat N ≤ x) : ∃ n, n < N ∧ x = Int32.ofNat n := by
  have e1 : (Int32.ofNat N).toInt = (N : Int) := nI_toInt hN
  rw [Int32.lt_iff_toInt_lt] at h0
  rw [Int32.le_iff_toInt_le, e1] at h1
  have e0 : (0 : Int32).toInt = 0 := by decide
  rw [e0] at h0
  refine ⟨x.toInt.toNat, by omega, Int32.toInt_inj.mp ?_⟩
  have e2 : (Int32.ofNat x.toInt.toNat).toInt = ((x.toInt.toNat : Nat) : Int) := nI_toInt (by omega)
  rw [e2]
  omega
theorem i_inb {n N : Nat} (h : n < N) (hN : N < 2 ^ 31) : mc_inb (Int32.ofNat n) N = true := decide_eq_true (vp_in_nI h hN)
theorem i_clamp {n : Nat} (h : n < 2 ^ 31) : (Int32.ofNat n).toNatClampNeg = n := Int32.toNatClampNeg_ofNat_of_lt h
theorem i_int {n : Nat} (h : n < 2 ^ 31) : (Int32.ofNat n).toInt = (n : Int) := nI_toInt h
theorem i_lt {a b : Nat} (ha : a < 2 ^ 31) (hb : b < 2 ^ 31) : Int32.ofNat a < Int32.ofNat b ↔ a < b := by
  rw [Int32.lt_iff_toInt_lt, i_int ha, i_int hb]
  omega
theorem i_le {a b : Nat} (ha : a < 2 ^ 31) (hb : b < 2 ^ 31) : Int32.ofNat a ≤ Int32.ofNat b ↔ a ≤ b := by
  rw [Int32.le_iff_toInt_le, i_int ha, i_int hb]
  omega
theorem i_eq {a b : Nat} (ha : a < 2 ^ 31) (hb : b < 2 ^ 31) : Int32.ofNat a = Int32.ofNat b ↔ a = b := by
  rw [← Int32.toInt_inj, i_int ha, i_int hb]
  omega
theorem i_add (a b : Nat) : Int32.ofNat a + Int32.ofNat b = Int32.ofNat (a + b) := by rw [Int32.ofNat_add]
theorem i_mul (a b : Nat) : Int32.ofNat a * Int32.ofNat b = Int32.ofNat (a * b) := by rw [Int32.ofNat_mul]
theorem upd_at (f : Nat → Int32) (k : Nat) (x : Int32) (j : Nat) : upd f k x j = if j = k then x else f j := rfl
theorem updL_at (f : Nat → Int64) (k : Nat) (x : Int64) (j : Nat) : vp_updL f k x j = if j = k then x else f j := rfl
