/-! The table as numbers; the best that can be had from a dish on. -/
abbrev tT : Type := Nat × Nat × (Nat → Nat → Nat) × (Nat → Nat)
def tN (T : tT) : Nat := T.1
def tP (T : tT) : Nat := T.2.1
def tV (T : tT) (what i : Nat) : Nat := T.2.2.1 what i
def tB (T : tT) (s : Nat) : Nat := T.2.2.2 s
def TOk (T : tT) : Prop := tN T ≤ 9 ∧ tP T ≤ 60 ∧ (∀ i, i < tN T → tV T 0 i ≤ 20 ∧ tV T 1 i ≤ 9 ∧ (1 ≤ tV T 2 i ∧ tV T 2 i ≤ 9) ∧ tV T 3 i ≤ 9 ∧ tV T 4 i ≤ 4 ∧ tV T 5 i ≤ 1 ∧ tV T 6 i ≤ 99 ∧ tV T 7 i ≤ 12) ∧ ∀ s, s < 5 → tB T s ≤ 31
/-- the first of the greatest -/
def pk (f : Nat → Int) : Nat → Int × Nat
  | 0 => (f 0, 0)
  | k + 1 => if (pk f k).1 < f (k + 1) then (f (k + 1), k + 1) else pk f k
theorem pk_succ (f : Nat → Int) (k : Nat) : pk f (k + 1) = if (pk f k).1 < f (k + 1) then (f (k + 1), k + 1) else pk f k := rfl
theorem pk_ge (f : Nat → Int) : ∀ (k t : Nat), t ≤ k → f t ≤ (pk f k).1
  | 0, t, h => by
    obtain rfl : t = 0 := by omega
    exact Int.le_refl _
  | k + 1, t, h => by
    rw [pk_succ]
    by_cases ht : t = k + 1
    · subst ht
      split
      · exact Int.le_refl _
      · omega
    · have := pk_ge f k t (by omega)
      split
      · show f t ≤ f (k + 1)
        omega
      · exact this
theorem pk_at (f : Nat → Int) : ∀ (k : Nat), f (pk f k).2 = (pk f k).1 ∧ (pk f k).2 ≤ k
  | 0 => ⟨rfl, Nat.le_refl _⟩
  | k + 1 => by
    rw [pk_succ]
    split
    · exact ⟨rfl, Nat.le_refl _⟩
    · exact ⟨(pk_at f k).1, Nat.le_succ_of_le (pk_at f k).2⟩
theorem pk_cut (f : Nat → Int) {k : Nat} : ∀ (k' : Nat), k ≤ k' → (∀ t, k < t → t ≤ k' → f t ≤ (pk f k).1) → pk f k' = pk f k
  | 0, h, _ => by
    obtain rfl : k = 0 := by omega
    rfl
  | k' + 1, h, hc => by
    by_cases hk : k = k' + 1
    · rw [hk]
    · have e := pk_cut f k' (by omega) (fun t h1 h2 => hc t h1 (by omega))
      have := hc (k' + 1) (by omega) (by omega)
      rw [pk_succ, e, if_neg (by omega)]
theorem pk_congr {f g : Nat → Int} : ∀ {k : Nat}, (∀ t, t ≤ k → f t = g t) → pk f k = pk g k
  | 0, h => by
    show (f 0, 0) = (g 0, 0)
    rw [h 0 (Nat.le_refl _)]
  | k + 1, h => by
    rw [pk_succ, pk_succ, pk_congr (k := k) (fun t ht => h t (by omega)), h (k + 1) (Nat.le_refl _)]
theorem pk_mono {f g : Nat → Int} {k k' : Nat} (hk : k' ≤ k) (h : ∀ t, t ≤ k' → f t ≤ g t) : (pk f k').1 ≤ (pk g k).1 := by
  obtain ⟨h1, h2⟩ := pk_at f k'
  rw [← h1]
  exact Int.le_trans (h _ h2) (pk_ge g k _ (by omega))
/-- what is barred with a sort, either way -/
def syB (B : Nat → Nat) (s : Nat) : Nat := ((((B s ||| (bif (B 0).testBit s then 1 else 0)) ||| (bif (B 1).testBit s then 2 else 0)) ||| (bif (B 2).testBit s then 4 else 0)) ||| (bif (B 3).testBit s then 8 else 0)) ||| (bif (B 4).testBit s then 16 else 0)
def mo (T : tT) (i room sg ru : Nat) : Nat := bif sg.testBit (tV T 4 i) then 0 else min (tV T 3 i) (room / (tV T 2 i + ru))
def wf (T : tT) (i t : Nat) : Int := (t : Int) * (tV T 0 i : Int) - ((t * (t - 1) / 2 : Nat) : Int) * (tV T 1 i : Int)
def nS (T : tT) (i t sg : Nat) : Nat := bif Nat.beq t 0 then sg else sg ||| syB (tB T) (tV T 4 i)
def nR (T : tT) (i t ru : Nat) : Nat := bif Nat.beq t 0 then ru else ru ||| tV T 5 i
def va (T : tT) (p : Nat) (c : Nat → Nat) : Nat → Nat → Nat → Nat → Nat → Int
  | 0, _, _, _, _ => 0
  | m + 1, i, room, sg, ru => (c i : Int) * (pk (fun t => wf T i t * (p : Int) ^ m + va T p c m (i + 1) (room - t * (tV T 2 i + ru)) (nS T i t sg) (nR T i t ru)) (mo T i room sg ru)).1 + ((p : Int) - (c i : Int)) * va T p c m (i + 1) room sg ru
/-- what t spoons of a dish come to, with what comes behind it -/
def fF (T : tT) (p : Nat) (c : Nat → Nat) (m i room sg ru t : Nat) : Int := wf T i t * (p : Int) ^ m + va T p c m (i + 1) (room - t * (tV T 2 i + ru)) (nS T i t sg) (nR T i t ru)
/-- the best of a dish that is there: worth and spoons -/
def bs (T : tT) (p : Nat) (c : Nat → Nat) (m i room sg ru : Nat) : Int × Nat := pk (fF T p c m i room sg ru) (mo T i room sg ru)
section
variable {T : tT} {p : Nat} {c : Nat → Nat}
theorem va_succ (m i room sg ru : Nat) : va T p c (m + 1) i room sg ru = (c i : Int) * (bs T p c m i room sg ru).1 + ((p : Int) - (c i : Int)) * va T p c m (i + 1) room sg ru := rfl
theorem nS_0 (i sg : Nat) : nS T i 0 sg = sg := rfl
theorem nS_s (i t sg : Nat) : nS T i (t + 1) sg = sg ||| syB (tB T) (tV T 4 i) := rfl
theorem nR_0 (i ru : Nat) : nR T i 0 ru = ru := rfl
theorem nR_s (i t ru : Nat) : nR T i (t + 1) ru = ru ||| tV T 5 i := rfl
theorem wf_0 (i : Nat) : wf T i 0 = 0 := by simp [wf]
theorem tri_succ (t : Nat) : (t + 1) * (t + 1 - 1) / 2 = t * (t - 1) / 2 + t := by
  cases t with
  | zero => rfl
  | succ t =>
    rw [Nat.add_sub_cancel, Nat.add_sub_cancel]
    rw [show (t + 1 + 1) * (t + 1) = (t + 1) * t + (t + 1) * 2 by
      rw [← Nat.mul_add]
      exact Nat.mul_comm _ _]
    rw [Nat.add_mul_div_right _ _ (by decide)]
theorem wf_succ (i t : Nat) : wf T i (t + 1) = wf T i t + ((tV T 0 i : Int) - (t : Int) * (tV T 1 i : Int)) := by
  unfold wf
  rw [tri_succ, Int.natCast_add, Int.natCast_add, Int.add_mul, Int.add_mul]
  have : ((1 : Nat) : Int) * (tV T 0 i : Int) = (tV T 0 i : Int) := Int.one_mul _
  omega
theorem fF_0 (m i room sg ru : Nat) : fF T p c m i room sg ru 0 = va T p c m (i + 1) room sg ru := by
  unfold fF
  rw [wf_0, nS_0, nR_0, Nat.zero_mul, Nat.sub_zero, Int.zero_mul, Int.zero_add]
theorem va_nonneg (hc : ∀ i, c i ≤ p) : ∀ (m i room sg ru : Nat), 0 ≤ va T p c m i room sg ru
  | 0, _, _, _, _ => Int.le_refl _
  | m + 1, i, room, sg, ru => by
    rw [va_succ]
    have h1 := va_nonneg hc m (i + 1) room sg ru
    have h2 : 0 ≤ (bs T p c m i room sg ru).1 := by
      refine Int.le_trans ?_ (pk_ge (fF T p c m i room sg ru) _ 0 (Nat.zero_le _))
      rw [fF_0]
      exact h1
    have h3 : (0 : Int) ≤ (p : Int) - (c i : Int) := by
      have := hc i
      omega
    exact Int.add_nonneg (Int.mul_nonneg (by omega) h2) (Int.mul_nonneg h3 h1)
theorem va_room0 : ∀ (m i sg ru : Nat), va T p c m i 0 sg ru = 0
  | 0, _, _, _ => rfl
  | m + 1, i, sg, ru => by
    have h0 : mo T i 0 sg ru = 0 := by
      unfold mo
      rw [Nat.zero_div, Nat.min_zero]
      cases sg.testBit (tV T 4 i) <;> rfl
    rw [va_succ, bs, h0]
    show (c i : Int) * (fF T p c m i 0 sg ru 0) + _ = 0
    rw [fF_0, va_room0 m, Int.mul_zero, Int.mul_zero]
    rfl
def sb (a b : Nat) : Prop := a ||| b = b
theorem sb_rf (a : Nat) : sb a a := Nat.or_self a
theorem sb_or {a b : Nat} (x : Nat) (h : sb a b) : sb (a ||| x) (b ||| x) := by
  refine Nat.eq_of_testBit_eq (fun i => ?_)
  have h1 := congrArg (fun z => Nat.testBit z i) h
  simp only [Nat.testBit_or] at h1 ⊢
  cases ha : a.testBit i <;> cases hb : b.testBit i <;> cases hx : x.testBit i <;> simp_all
theorem sb_in (a x : Nat) : sb a (a ||| x) := by
  unfold sb
  rw [← Nat.or_assoc, Nat.or_self]
theorem sb_le {a b : Nat} (h : sb a b) : a ≤ b := by
  have := Nat.left_le_or (n := a) (m := b)
  rw [h] at this
  exact this
theorem sb_bit {a b : Nat} (h : sb a b) {k : Nat} (hk : a.testBit k = true) : b.testBit k = true := by
  rw [← h, Nat.testBit_or, hk]
  rfl
theorem va_mono (hc : ∀ i, c i ≤ p) : ∀ (m i room room' sg sg' ru ru' : Nat), (∀ j, j < i + m → 1 ≤ tV T 2 j) → room' ≤ room → sb sg sg' → sb ru ru' → va T p c m i room' sg' ru' ≤ va T p c m i room sg ru
  | 0, _, _, _, _, _, _, _, _, _, _, _ => Int.le_refl _
  | m + 1, i, room, room', sg, sg', ru, ru', hS, hr, hs, hu => by
    rw [va_succ, va_succ]
    have h1 := va_mono hc m (i + 1) room room' sg sg' ru ru' (fun j hj => hS j (by omega)) hr hs hu
    have hmo : mo T i room' sg' ru' ≤ mo T i room sg ru := by
      unfold mo
      cases hb : sg.testBit (tV T 4 i) with
      | true =>
        rw [sb_bit hs hb]
        exact Nat.le_refl _
      | false =>
        cases sg'.testBit (tV T 4 i) with
        | true => exact Nat.zero_le _
        | false =>
          show min (tV T 3 i) (room' / (tV T 2 i + ru')) ≤ min (tV T 3 i) (room / (tV T 2 i + ru))
          have hle := sb_le hu
          have hS1 := hS i (by omega)
          have hd : room' / (tV T 2 i + ru') ≤ room / (tV T 2 i + ru) := Nat.le_trans (Nat.div_le_div_left (show tV T 2 i + ru ≤ tV T 2 i + ru' by omega) (by omega)) (Nat.div_le_div_right hr)
          omega
    have h2 : (bs T p c m i room' sg' ru').1 ≤ (bs T p c m i room sg ru).1 := by
      refine pk_mono hmo (fun t _ => ?_)
      unfold fF
      refine Int.add_le_add_left (va_mono hc m (i + 1) _ _ _ _ _ _ (fun j hj => hS j (by omega)) ?_ ?_ ?_) _
      · have hle := sb_le hu
        have := Nat.mul_le_mul_left t (show tV T 2 i + ru ≤ tV T 2 i + ru' by omega)
        omega
      · cases t with
        | zero => exact hs
        | succ t => exact sb_or _ hs
      · cases t with
        | zero => exact hu
        | succ t => exact sb_or _ hu
    have h3 : (0 : Int) ≤ (p : Int) - (c i : Int) := by
      have := hc i
      omega
    exact Int.add_le_add (Int.mul_le_mul_of_nonneg_left h2 (by omega)) (Int.mul_le_mul_of_nonneg_left h1 h3)
/-- only the sorts that still come count -/
theorem va_seen : ∀ (m i room sg sg' ru : Nat), (∀ j, i ≤ j → j < i + m → 0 < tV T 3 j → sg.testBit (tV T 4 j) = sg'.testBit (tV T 4 j)) → va T p c m i room sg ru = va T p c m i room sg' ru
  | 0, _, _, _, _, _, _ => rfl
  | m + 1, i, room, sg, sg', ru, h => by
    have h1 := va_seen m (i + 1) room sg sg' ru (fun j a b d => h j (by omega) (by omega) d)
    have hmo : mo T i room sg ru = mo T i room sg' ru := by
      unfold mo
      cases hp : tV T 3 i with
      | zero =>
        rw [Nat.zero_min]
        cases sg.testBit (tV T 4 i) <;> cases sg'.testBit (tV T 4 i) <;> rfl
      | succ q => rw [h i (Nat.le_refl _) (by omega) (by omega)]
    rw [va_succ, va_succ, h1, bs, bs, hmo, pk_congr (g := fF T p c m i room sg' ru) (fun t _ => ?_)]
    unfold fF
    rw [va_seen m (i + 1) _ (nS T i t sg) (nS T i t sg') _ (fun j a b d => ?_)]
    cases t with
    | zero => exact h j (by omega) (by omega) d
    | succ t =>
      rw [nS_s, nS_s, Nat.testBit_or, Nat.testBit_or, h j (by omega) (by omega) d]
theorem wf_le {i t : Nat} (hW : tV T 0 i ≤ 20) (ht : t ≤ 9) : wf T i t ≤ 180 := by
  unfold wf
  have h1 : (t : Int) * (tV T 0 i : Int) ≤ 9 * 20 := Int.mul_le_mul (by omega) (by omega) (by omega) (by omega)
  have h2 : (0 : Int) ≤ ((t * (t - 1) / 2 : Nat) : Int) * (tV T 1 i : Int) := Int.mul_nonneg (by omega) (by omega)
  omega
theorem va_le (hc : ∀ i, c i ≤ p) (hp : 1 ≤ p) : ∀ (m i room sg ru : Nat), (∀ j, j < i + m → tV T 0 j ≤ 20 ∧ tV T 3 j ≤ 9) → va T p c m i room sg ru ≤ 180 * (m : Int) * (p : Int) ^ m
  | 0, _, _, _, _, _ => Int.le_refl _
  | m + 1, i, room, sg, ru, h => by
    rw [va_succ]
    have hq : (0 : Int) ≤ (p : Int) ^ m := Int.pow_nonneg (by omega)
    have h1 := va_le hc hp m (i + 1) room sg ru (fun j hj => h j (by omega))
    have h2 : (bs T p c m i room sg ru).1 ≤ 180 * (p : Int) ^ m + 180 * (m : Int) * (p : Int) ^ m := by
      obtain ⟨e, hle⟩ := pk_at (fF T p c m i room sg ru) (mo T i room sg ru)
      show (pk (fF T p c m i room sg ru) (mo T i room sg ru)).1 ≤ _
      rw [← e]
      generalize (pk (fF T p c m i room sg ru) (mo T i room sg ru)).2 = t at hle
      have h9 := h i (by omega)
      have ht : t ≤ 9 := by
        have : mo T i room sg ru ≤ tV T 3 i := by
          unfold mo
          cases sg.testBit (tV T 4 i) with
          | true => exact Nat.zero_le _
          | false => exact Nat.min_le_left _ _
        omega
      unfold fF
      exact Int.add_le_add (Int.mul_le_mul_of_nonneg_right (wf_le h9.1 ht) hq) (va_le hc hp m (i + 1) _ _ _ (fun j hj => h j (by omega)))
    have h3 : (0 : Int) ≤ (p : Int) - (c i : Int) := by
      have := hc i
      omega
    have h4 : va T p c m (i + 1) room sg ru ≤ 180 * (p : Int) ^ m + 180 * (m : Int) * (p : Int) ^ m := by omega
    have h5 := Int.add_le_add (Int.mul_le_mul_of_nonneg_left h2 (show (0 : Int) ≤ (c i : Int) by omega)) (Int.mul_le_mul_of_nonneg_left h4 h3)
    refine Int.le_trans h5 (Int.le_of_eq ?_)
    rw [← Int.add_mul, show (c i : Int) + ((p : Int) - (c i : Int)) = (p : Int) by omega, ← Int.add_mul, Int.pow_succ]
    rw [show (180 : Int) + 180 * (m : Int) = 180 * ((m + 1 : Nat) : Int) by omega]
    rw [← Int.mul_assoc, Int.mul_comm (p : Int), Int.mul_assoc, Int.mul_assoc, Int.mul_assoc, Int.mul_comm (p : Int)]
/-- further spoons that are worth nothing: no best way has them -/
theorem bs_cut (hc : ∀ i, c i ≤ p) {m i room sg ru K : Nat} (hS : ∀ j, j < i + (m + 1) → 1 ≤ tV T 2 j) (hK : K ≤ mo T i room sg ru) (hw : K = mo T i room sg ru ∨ (tV T 0 i : Int) - (K : Int) * (tV T 1 i : Int) ≤ 0) : bs T p c m i room sg ru = pk (fF T p c m i room sg ru) K := by
  refine pk_cut _ _ hK (fun t h1 h2 => ?_)
  rcases hw with hw | hw
  · omega
  refine Int.le_trans ?_ (pk_ge (fF T p c m i room sg ru) K K (Nat.le_refl _))
  have hwf : ∀ d, wf T i (K + d) ≤ wf T i K := by
    intro d
    induction d with
    | zero => exact Int.le_refl _
    | succ d ih =>
      rw [← Nat.add_assoc, wf_succ]
      have h3 : (K : Int) * (tV T 1 i : Int) ≤ ((K + d : Nat) : Int) * (tV T 1 i : Int) := Int.mul_le_mul_of_nonneg_right (by omega) (by omega)
      omega
  obtain ⟨d, rfl⟩ : ∃ d, t = K + d := ⟨t - K, by omega⟩
  unfold fF
  refine Int.add_le_add (Int.mul_le_mul_of_nonneg_right (hwf d) (Int.pow_nonneg (by omega))) (va_mono hc m (i + 1) _ _ _ _ _ _ (fun j hj => hS j (by omega)) ?_ ?_ ?_)
  · have := Nat.mul_le_mul_right (tV T 2 i + ru) (show K ≤ K + d by omega)
    omega
  · obtain ⟨z, hz⟩ : ∃ z, K + d = z + 1 := ⟨K + d - 1, by omega⟩
    rw [hz, nS_s]
    cases K with
    | zero => exact sb_in _ _
    | succ K => exact sb_rf _
  · obtain ⟨z, hz⟩ : ∃ z, K + d = z + 1 := ⟨K + d - 1, by omega⟩
    rw [hz, nR_s]
    cases K with
    | zero => exact sb_in _ _
    | succ K => exact sb_rf _
end
