/-! THE LAW's text, read in thought. Codes are lists, the latest step first. -/
abbrev rS : Type := Bool × Nat × List (Int × Int)
def lvO (c : Int) : Int := if c = 124 then 0 else if c = 38 then 1 else if c = 60 ∨ c = 61 ∨ c = 62 then 2 else if c = 43 ∨ c = 45 then 3 else if c = 42 ∨ c = 47 ∨ c = 37 then 4 else -1
def nmO (c : Int) : Int := if c = 119 then 0 else if c = 115 then 1 else if c = 108 then 2 else if c = 107 then 3 else if c = 110 then 4 else if c = 116 then 5 else -1
def dg (c : Int) : Bool := decide (48 ≤ c ∧ c ≤ 57)
def nbr (q : Nat → Int) : Nat → Nat → Int → Nat × Int
  | 0, p, v => (p, v)
  | n + 1, p, v => if dg (q p) = true then nbr q n (p + 1) (v * 10 + q p - 48) else (p, v)
/-- behind an operand: further ones of the level -/
def lpL (q : Nat → Int) (g : Nat → rS) (lev : Nat) : Nat → Nat → List (Int × Int) → rS
  | 0, p, c => (true, p, c)
  | n + 1, p, c => if lvO (q p) = (lev : Int) then (if (g (p + 1)).1 = true then lpL q g lev n (g (p + 1)).2.1 ((q p, 0) :: ((g (p + 1)).2.2 ++ c)) else (false, (g (p + 1)).2.1, [])) else (true, p, c)
def lvl (q : Nat → Int) (g : Nat → rS) (lev most p : Nat) : rS := if (g p).1 = true then lpL q g lev most (g p).2.1 (g p).2.2 else (false, (g p).2.1, [])
def mstL (lev : Nat) : Nat := if lev = 2 then 1 else 120
/-- the level 5 - k, over operands g -/
def tL (q : Nat → Int) (g : Nat → rS) : Nat → Nat → rS
  | 0 => g
  | k + 1 => lvl q (tL q g k) (4 - k) (mstL (4 - k))
/-- a number -/
def opN (q : Nat → Int) (p : Nat) : rS := if dg (q (nbr q 4 p 0).1) = true then (false, (nbr q 4 p 0).1, []) else (true, (nbr q 4 p 0).1, [(1, (nbr q 4 p 0).2)])
/-- ( E ) -/
def opP (q : Nat → Int) (g : Nat → rS) (p : Nat) : rS := if (tL q g 5 (p + 1)).1 = true then (if q (tL q g 5 (p + 1)).2.1 = 41 then (true, (tL q g 5 (p + 1)).2.1 + 1, (tL q g 5 (p + 1)).2.2) else (false, (tL q g 5 (p + 1)).2.1, [])) else (false, (tL q g 5 (p + 1)).2.1, [])
/-- ! O, - O -/
def opU (q : Nat → Int) (g : Nat → rS) (p : Nat) : rS := if (g (p + 1)).1 = true then (true, (g (p + 1)).2.1, (if q p = 33 then 33 else 3, 0) :: (g (p + 1)).2.2) else (false, (g (p + 1)).2.1, [])
def opA (q : Nat → Int) (g : Option (Nat → rS)) (p : Nat) : rS := if dg (q p) = true then opN q p else if 0 ≤ nmO (q p) then (true, p + 1, [(2, nmO (q p))]) else match g with
  | none => (false, p, [])
  | some g => if q p = 40 then opP q g p else if q p = 33 ∨ q p = 45 then opU q g p else (false, p, [])
/-- an operand, with r opens left -/
def opd (q : Nat → Int) : Nat → Nat → rS
  | 0 => opA q none
  | r + 1 => opA q (some (opd q r))
theorem lvO_neg {c : Int} (h : c = -1) : lvO c = -1 := by
  subst h
  rfl
theorem nmO_le (c : Int) : -1 ≤ nmO c ∧ nmO c ≤ 5 := by
  unfold nmO
  repeat' split
  all_goals omega
theorem lvO_le (c : Int) : -1 ≤ lvO c ∧ lvO c ≤ 4 := by
  unfold lvO
  repeat' split
  all_goals omega
theorem lvO_dg {c : Int} (h : dg c = true) : lvO c = -1 := by
  have h := of_decide_eq_true h
  unfold lvO
  rw [if_neg (by omega), if_neg (by omega), if_neg (by omega), if_neg (by omega), if_neg (by omega)]
theorem nmO_dg {c : Int} (h : dg c = true) : nmO c = -1 := by
  have h := of_decide_eq_true h
  unfold nmO
  rw [if_neg (by omega), if_neg (by omega), if_neg (by omega), if_neg (by omega), if_neg (by omega), if_neg (by omega)]
theorem nmO_neg {c : Int} (h : c < 0 ∨ c < 107 ∨ 119 < c) : nmO c = -1 := by
  unfold nmO
  rw [if_neg (by omega), if_neg (by omega), if_neg (by omega), if_neg (by omega), if_neg (by omega), if_neg (by omega)]
theorem lvO_hi {c : Int} (h : c < 0 ∨ 124 < c) : lvO c = -1 := by
  unfold lvO
  rw [if_neg (by omega), if_neg (by omega), if_neg (by omega), if_neg (by omega), if_neg (by omega)]
/-- the tape as one peeks: L bytes, then -1 -/
def TQ (q : Nat → Int) (L : Nat) : Prop := L ≤ 120 ∧ (∀ j, j < L → 0 ≤ q j ∧ q j < 256) ∧ ∀ j, L ≤ j → q j = -1
theorem TQ.lt {q : Nat → Int} {L p : Nat} (h : TQ q L) (hp : ¬ q p = -1) : p < L := by
  by_cases hl : p < L
  · exact hl
  · exact absurd (h.2.2 p (by omega)) hp
theorem TQ.rg {q : Nat → Int} {L : Nat} (h : TQ q L) (p : Nat) : -1 ≤ q p ∧ q p < 256 := by
  by_cases hl : p < L
  · have := h.2.1 p hl
    omega
  · have := h.2.2 p (by omega)
    omega
/-! What a code comes to: a pile, the top first. -/
def jnO (k : Int) (a b : Int32) : Int32 := if k = 43 then a + b else if k = 45 then a - b else if k = 42 then a * b else if k = 47 then (if b = 0 then 0 else a / b) else if k = 37 then (if b = 0 then 0 else a - a / b * b) else if k = 60 then (if a < b then 1 else 0) else if k = 61 then (if a = b then 1 else 0) else if k = 62 then (if b < a then 1 else 0) else if k = 38 then (if a ≠ 0 ∧ b ≠ 0 then 1 else 0) else (if a ≠ 0 ∨ b ≠ 0 then 1 else 0)
def st1 (nm : Int → Int32) (x : Int × Int) (s : List Int32) : Option (List Int32) := if x.1 = 1 then some (iI x.2 :: s) else if x.1 = 2 then some (nm x.2 :: s) else if x.1 = 3 then (match s with
  | [] => none
  | a :: s => some (-a :: s)) else if x.1 = 33 then (match s with
  | [] => none
  | a :: s => some ((if a = 0 then 1 else 0) :: s)) else (match s with
  | b :: a :: s => some (jnO x.1 a b :: s)
  | _ => none)
def evl (nm : Int → Int32) : List (Int × Int) → List Int32 → Option (List Int32)
  | [], s => some s
  | x :: l, s => (evl nm l s).bind (st1 nm x)
theorem evl_app (nm : Int → Int32) : ∀ (l2 l1 : List (Int × Int)) (s : List Int32), evl nm (l2 ++ l1) s = (evl nm l1 s).bind (evl nm l2)
  | [], l1, s => by
    show evl nm l1 s = _
    cases evl nm l1 s <;> rfl
  | x :: l2, l1, s => by
    show (evl nm (l2 ++ l1) s).bind (st1 nm x) = _
    rw [evl_app nm l2 l1 s]
    cases evl nm l1 s <;> rfl
/-- a step that may stand in a code -/
def okS (x : Int × Int) : Prop := (x.1 = 1 ∧ 0 ≤ x.2 ∧ x.2 ≤ 9999) ∨ (x.1 = 2 ∧ 0 ≤ x.2 ∧ x.2 ≤ 5) ∨ ((x.1 = 3 ∨ x.1 = 33 ∨ 0 ≤ lvO x.1) ∧ x.2 = 0)
/-- a code that puts one number on the pile -/
def WFc (c : List (Int × Int)) : Prop := (∀ x, x ∈ c → okS x) ∧ ∀ nm, ∃ v, ∀ s, evl nm c s = some (v :: s)
theorem WFc.bin {c1 c2 : List (Int × Int)} {k : Int} (h1 : WFc c1) (h2 : WFc c2) (hk : 0 ≤ lvO k) : WFc ((k, 0) :: (c2 ++ c1)) := by
  refine ⟨fun x hx => ?_, fun nm => ?_⟩
  · rcases List.mem_cons.mp hx with rfl | hx
    · exact Or.inr (Or.inr ⟨Or.inr (Or.inr hk), rfl⟩)
    · rcases List.mem_append.mp hx with hx | hx
      · exact h2.1 x hx
      · exact h1.1 x hx
  · obtain ⟨v1, e1⟩ := h1.2 nm
    obtain ⟨v2, e2⟩ := h2.2 nm
    refine ⟨jnO k v1 v2, fun s => ?_⟩
    show (evl nm (c2 ++ c1) s).bind (st1 nm (k, 0)) = _
    rw [evl_app, e1]
    show (evl nm c2 (v1 :: s)).bind (st1 nm (k, 0)) = _
    rw [e2]
    have hk1 : ¬ k = 1 ∧ ¬ k = 2 ∧ ¬ k = 3 ∧ ¬ k = 33 := by
      refine ⟨?_, ?_, ?_, ?_⟩ <;> (rintro rfl; exact absurd hk (by decide))
    show st1 nm (k, 0) (v2 :: v1 :: s) = _
    unfold st1
    rw [if_neg hk1.1, if_neg hk1.2.1, if_neg hk1.2.2.1, if_neg hk1.2.2.2]
theorem WFc.una {c : List (Int × Int)} {k : Int} (h : WFc c) (hk : k = 3 ∨ k = 33) : WFc ((k, 0) :: c) := by
  refine ⟨fun x hx => ?_, fun nm => ?_⟩
  · rcases List.mem_cons.mp hx with rfl | hx
    · exact Or.inr (Or.inr ⟨hk.elim Or.inl (fun e => Or.inr (Or.inl e)), rfl⟩)
    · exact h.1 x hx
  · obtain ⟨v, e⟩ := h.2 nm
    rcases hk with rfl | rfl
    · refine ⟨-v, fun s => ?_⟩
      show (evl nm c s).bind _ = _
      rw [e]
      rfl
    · refine ⟨if v = 0 then 1 else 0, fun s => ?_⟩
      show (evl nm c s).bind _ = _
      rw [e]
      rfl
/-- what a reader keeps -/
def GR (q : Nat → Int) (L : Nat) (g : Nat → rS) : Prop := ∀ p, p ≤ L → ((g p).1 = true → p < (g p).2.1 ∧ (g p).2.1 ≤ L ∧ (g p).2.2.length + p ≤ (g p).2.1 ∧ WFc (g p).2.2) ∧ ((g p).1 = false → p ≤ (g p).2.1 ∧ (g p).2.1 ≤ L)
section
variable {q : Nat → Int} {L : Nat}
theorem lpL_ok {g : Nat → rS} {lev : Nat} (hq : TQ q L) (hg : GR q L g) : ∀ (n p p0 : Nat) (c : List (Int × Int)), p0 < p → p ≤ L → c.length + p0 ≤ p → WFc c → ((lpL q g lev n p c).1 = true → p0 < (lpL q g lev n p c).2.1 ∧ (lpL q g lev n p c).2.1 ≤ L ∧ (lpL q g lev n p c).2.2.length + p0 ≤ (lpL q g lev n p c).2.1 ∧ WFc (lpL q g lev n p c).2.2) ∧ ((lpL q g lev n p c).1 = false → p ≤ (lpL q g lev n p c).2.1 ∧ (lpL q g lev n p c).2.1 ≤ L)
  | 0, p, p0, c, h1, h2, h3, h4 => ⟨fun _ => ⟨h1, h2, h3, h4⟩, fun e => by cases e⟩
  | n + 1, p, p0, c, h1, h2, h3, h4 => by
    unfold lpL
    by_cases hl : lvO (q p) = (lev : Int)
    · rw [if_pos hl]
      have hp : p < L := hq.lt (fun e => by rw [lvO_neg e] at hl; omega)
      have hgp := hg (p + 1) (by omega)
      by_cases ht : (g (p + 1)).1 = true
      · rw [if_pos ht]
        obtain ⟨a1, a2, a3, a4⟩ := hgp.1 ht
        have ih := lpL_ok (lev := lev) hq hg n (g (p + 1)).2.1 p0 ((q p, 0) :: ((g (p + 1)).2.2 ++ c)) (by omega) a2 (by rw [List.length_cons, List.length_append]; omega) (h4.bin a4 (by omega))
        exact ⟨ih.1, fun e => ⟨by have := (ih.2 e).1; omega, (ih.2 e).2⟩⟩
      · rw [if_neg ht]
        have := hgp.2 (by cases hq : (g (p + 1)).1 <;> simp_all)
        exact ⟨fun e => (by cases e), fun _ => ⟨by show p ≤ (g (p + 1)).2.1; omega, this.2⟩⟩
    · rw [if_neg hl]
      exact ⟨fun _ => ⟨h1, h2, h3, h4⟩, fun e => by cases e⟩
theorem lvl_ok {g : Nat → rS} {lev most : Nat} (hq : TQ q L) (hg : GR q L g) : GR q L (lvl q g lev most) := by
  intro p hp
  have hgp := hg p hp
  unfold lvl
  by_cases ht : (g p).1 = true
  · rw [if_pos ht]
    obtain ⟨a1, a2, a3, a4⟩ := hgp.1 ht
    have ih := lpL_ok (lev := lev) hq hg most (g p).2.1 p (g p).2.2 a1 a2 a3 a4
    exact ⟨ih.1, fun e => ⟨by have := (ih.2 e).1; omega, (ih.2 e).2⟩⟩
  · rw [if_neg ht]
    have := hgp.2 (by cases hq : (g p).1 <;> simp_all)
    exact ⟨fun e => (by cases e), fun _ => this⟩
theorem tL_ok {g : Nat → rS} (hq : TQ q L) (hg : GR q L g) : ∀ k, GR q L (tL q g k)
  | 0 => hg
  | k + 1 => lvl_ok hq (tL_ok hq hg k)
theorem nbr_ok (hq : TQ q L) : ∀ (n p : Nat) (v : Int), p ≤ L → p ≤ (nbr q n p v).1 ∧ (nbr q n p v).1 ≤ L
  | 0, p, v, h => ⟨Nat.le_refl _, h⟩
  | n + 1, p, v, h => by
    unfold nbr
    by_cases hd : dg (q p) = true
    · rw [if_pos hd]
      have hp : p < L := hq.lt (fun e => by
        have := of_decide_eq_true hd
        omega)
      have ih := nbr_ok hq n (p + 1) (v * 10 + q p - 48) (by omega)
      exact ⟨by omega, ih.2⟩
    · rw [if_neg hd]
      exact ⟨Nat.le_refl _, h⟩
theorem pow10 : ∀ n : Nat, (1 : Int) ≤ 10 ^ n
  | 0 => by
    rw [Int.pow_zero]
    exact Int.le_refl 1
  | n + 1 => by
    have := pow10 n
    rw [Int.pow_succ]
    omega
theorem nbr_v (hq : TQ q L) : ∀ (n p : Nat) (v m : Int), 0 ≤ v → v < m → 0 ≤ (nbr q n p v).2 ∧ (nbr q n p v).2 < m * 10 ^ n
  | 0, p, v, m, h0, h1 => ⟨h0, by rw [Int.pow_zero, Int.mul_one]; exact h1⟩
  | n + 1, p, v, m, h0, h1 => by
    unfold nbr
    have hpow : (1 : Int) ≤ 10 ^ n := pow10 _
    by_cases hd : dg (q p) = true
    · rw [if_pos hd]
      have hd := of_decide_eq_true hd
      have ih := nbr_v hq n (p + 1) (v * 10 + q p - 48) (m * 10) (by omega) (by omega)
      refine ⟨ih.1, ?_⟩
      rw [Int.pow_succ, Int.mul_comm (10 ^ n) 10, ← Int.mul_assoc]
      exact ih.2
    · rw [if_neg hd]
      refine ⟨h0, Int.lt_of_lt_of_le h1 ?_⟩
      have hpow2 : (1 : Int) ≤ 10 ^ (n + 1) := pow10 _
      have := Int.mul_le_mul_of_nonneg_left hpow2 (show 0 ≤ m by omega)
      rw [Int.mul_one] at this
      exact this
theorem opN_ok (hq : TQ q L) {p : Nat} (hp : p ≤ L) (hd : dg (q p) = true) : ((opN q p).1 = true → p < (opN q p).2.1 ∧ (opN q p).2.1 ≤ L ∧ (opN q p).2.2.length + p ≤ (opN q p).2.1 ∧ WFc (opN q p).2.2) ∧ ((opN q p).1 = false → p ≤ (opN q p).2.1 ∧ (opN q p).2.1 ≤ L) := by
  have hpl : p < L := hq.lt (fun e => by
    have := of_decide_eq_true hd
    omega)
  have e4 : nbr q 4 p 0 = nbr q 3 (p + 1) (0 * 10 + q p - 48) := if_pos hd
  have h3 := nbr_ok hq 3 (p + 1) (0 * 10 + q p - 48) (by omega)
  have hv := nbr_v hq 4 p 0 1 (by decide) (by decide)
  rw [← e4] at h3
  unfold opN
  by_cases hd2 : dg (q (nbr q 4 p 0).1) = true
  · rw [if_pos hd2]
    exact ⟨fun e => (by cases e), fun _ => ⟨by show p ≤ (nbr q 4 p 0).1; omega, h3.2⟩⟩
  · rw [if_neg hd2]
    refine ⟨fun _ => ⟨by show p < (nbr q 4 p 0).1; omega, h3.2, by show 1 + p ≤ (nbr q 4 p 0).1; omega, fun x hx => ?_, fun nm => ⟨iI (nbr q 4 p 0).2, fun s => rfl⟩⟩, fun e => by cases e⟩
    rw [List.mem_singleton.mp hx]
    exact Or.inl ⟨rfl, hv.1, by have := hv.2; show (nbr q 4 p 0).2 ≤ 9999; omega⟩
theorem opA_ok {g : Option (Nat → rS)} (hq : TQ q L) (hg : ∀ g', g = some g' → GR q L g') : GR q L (opA q g) := by
  intro p hp
  unfold opA
  by_cases hd : dg (q p) = true
  · rw [if_pos hd]
    exact opN_ok hq hp hd
  · rw [if_neg hd]
    by_cases hn : 0 ≤ nmO (q p)
    · rw [if_pos hn]
      have hpl : p < L := hq.lt (fun e => by
        rw [e] at hn
        exact absurd hn (by decide))
      refine ⟨fun _ => ⟨Nat.lt_succ_self p, hpl, by show 1 + p ≤ p + 1; omega, fun x hx => ?_, fun nm => ⟨nm (nmO (q p)), fun s => rfl⟩⟩, fun e => by cases e⟩
      rw [List.mem_singleton.mp hx]
      exact Or.inr (Or.inl ⟨rfl, hn, (nmO_le _).2⟩)
    · rw [if_neg hn]
      cases g with
      | none => exact ⟨fun e => (by cases e), fun _ => ⟨Nat.le_refl _, hp⟩⟩
      | some g =>
        have hgg := hg g rfl
        show _ ∧ _
        dsimp only
        by_cases h40 : q p = 40
        · rw [if_pos h40]
          have hpl : p < L := hq.lt (by omega)
          have ht := tL_ok hq hgg 5 (p + 1) (by omega)
          unfold opP
          by_cases h5 : (tL q g 5 (p + 1)).1 = true
          · rw [if_pos h5]
            obtain ⟨a1, a2, a3, a4⟩ := ht.1 h5
            by_cases h41 : q (tL q g 5 (p + 1)).2.1 = 41
            · rw [if_pos h41]
              have hpl2 := hq.lt (p := (tL q g 5 (p + 1)).2.1) (by omega)
              exact ⟨fun _ => ⟨by show p < (tL q g 5 (p + 1)).2.1 + 1; omega, hpl2, by show (tL q g 5 (p + 1)).2.2.length + p ≤ (tL q g 5 (p + 1)).2.1 + 1; omega, a4⟩, fun e => by cases e⟩
            · rw [if_neg h41]
              exact ⟨fun e => (by cases e), fun _ => ⟨by show p ≤ (tL q g 5 (p + 1)).2.1; omega, a2⟩⟩
          · rw [if_neg h5]
            have := ht.2 (by cases hq : (tL q g 5 (p + 1)).1 <;> simp_all)
            exact ⟨fun e => (by cases e), fun _ => ⟨by show p ≤ (tL q g 5 (p + 1)).2.1; omega, this.2⟩⟩
        · rw [if_neg h40]
          by_cases hu : q p = 33 ∨ q p = 45
          · rw [if_pos hu]
            have hpl : p < L := hq.lt (by omega)
            have ht := hgg (p + 1) (by omega)
            unfold opU
            by_cases h5 : (g (p + 1)).1 = true
            · rw [if_pos h5]
              obtain ⟨a1, a2, a3, a4⟩ := ht.1 h5
              refine ⟨fun _ => ⟨by show p < (g (p + 1)).2.1; omega, a2, by show (g (p + 1)).2.2.length + 1 + p ≤ (g (p + 1)).2.1; omega, ?_⟩, fun e => by cases e⟩
              by_cases h33 : q p = 33
              · rw [if_pos h33]
                exact a4.una (Or.inr rfl)
              · rw [if_neg h33]
                exact a4.una (Or.inl rfl)
            · rw [if_neg h5]
              have := ht.2 (by cases hq : (g (p + 1)).1 <;> simp_all)
              exact ⟨fun e => (by cases e), fun _ => ⟨by show p ≤ (g (p + 1)).2.1; omega, this.2⟩⟩
          · rw [if_neg hu]
            exact ⟨fun e => (by cases e), fun _ => ⟨Nat.le_refl _, hp⟩⟩
theorem opd_ok (hq : TQ q L) : ∀ r, GR q L (opd q r)
  | 0 => opA_ok hq (fun g' e => by cases e)
  | r + 1 => opA_ok hq (fun g' e => by cases e; exact opd_ok hq r)
end
