/-! What a law comes to. -/
/-- the steps from p on, one by one -/
def evR (C : Nat → Int × Int) (nm : Int → Int32) : Nat → Nat → List Int32 → Option (List Int32)
  | 0, _, s => some s
  | k + 1, p, s => (evR C nm k p s).bind (st1 nm (C (p + k)))
theorem evR_le {C : Nat → Int × Int} {nm : Int → Int32} {p : Nat} {s : List Int32} : ∀ (n k : Nat), k ≤ n → ∀ t, evR C nm n p s = some t → ∃ u, evR C nm k p s = some u
  | 0, k, hk, t, h => by
    obtain rfl : k = 0 := by omega
    exact ⟨t, h⟩
  | n + 1, k, hk, t, h => by
    by_cases hkn : k = n + 1
    · rw [hkn]
      exact ⟨t, h⟩
    · have h : (evR C nm n p s).bind (st1 nm (C (p + n))) = some t := h
      cases hq : evR C nm n p s with
      | none =>
        rw [hq] at h
        cases h
      | some u => exact evR_le n k (by omega) u hq
theorem gA_app {l2 l1 : List (Int × Int)} {j : Nat} (hj : j < l1.length) : gA (l2 ++ l1) j = gA l1 j := by
  induction l2 with
  | nil => rfl
  | cons x l2 ih =>
    show (if j = (l2 ++ l1).length then x else gA (l2 ++ l1) j) = _
    rw [List.length_append, if_neg (by omega), ih]
/-- a piece of the code -/
theorem evR_evl {nm : Int → Int32} {post pre : List (Int × Int)} : ∀ (seg : List (Int × Int)) (s : List Int32), evR (gA (post ++ (seg ++ pre))) nm seg.length pre.length s = evl nm seg s := by
  have key : ∀ (seg r : List (Int × Int)) (s : List Int32), evR (gA (r ++ (seg ++ pre))) nm seg.length pre.length s = evl nm seg s := by
    intro seg
    induction seg with
    | nil => intro r s; rfl
    | cons x seg ih =>
      intro r s
      show (evR (gA (r ++ (x :: seg ++ pre))) nm seg.length pre.length s).bind (st1 nm (gA (r ++ (x :: seg ++ pre)) (pre.length + seg.length))) = (evl nm seg s).bind (st1 nm x)
      have e1 : r ++ (x :: seg ++ pre) = (r ++ [x]) ++ (seg ++ pre) := by simp
      have e2 : gA (r ++ (x :: seg ++ pre)) (pre.length + seg.length) = x := by
        rw [gA_app (by rw [List.cons_append, List.length_cons, List.length_append]; omega)]
        show (if pre.length + seg.length = (seg ++ pre).length then x else _) = x
        rw [List.length_append, if_pos (by omega)]
      rw [e2, e1, ih]
  intro seg s
  exact key seg post s
/-- from a to b the code puts one number on the pile -/
def wfs (C : Nat → Int × Int) (a b : Nat) : Prop := a < b ∧ ∀ nm, ∃ v, evR C nm (b - a) a [] = some [v]
theorem WFc.wfs {post c pre : List (Int × Int)} (h : WFc c) : wfs (gA (post ++ (c ++ pre))) pre.length (c ++ pre).length := by
  refine ⟨?_, fun nm => ?_⟩
  · rw [List.length_append]
    cases c with
    | nil =>
      obtain ⟨v, hv⟩ := h.2 (fun _ => 0)
      have := hv []
      cases this
    | cons x c =>
      rw [List.length_cons]
      omega
  · obtain ⟨v, hv⟩ := h.2 nm
    refine ⟨v, ?_⟩
    rw [List.length_append, show c.length + pre.length - pre.length = c.length by omega, evR_evl]
    exact hv []
/-- lines by their marks: F the first parts' ends, E their own -/
def PW (C : Nat → Int × Int) (n : Nat) (F E : Nat → Nat) (m : Nat) : Prop := ∀ i, i < m → (E i ≤ n ∧ F i ≤ E i) ∧ ((F i = if i = 0 then 0 else E (i - 1)) ∨ wfs C (if i = 0 then 0 else E (i - 1)) (F i)) ∧ wfs C (F i) (E i)
theorem WL.pw : ∀ {ms C : List (Int × Int)} (r : List (Int × Int)), WL C ms → ∃ F E : Nat → Nat, (∀ i, i < ms.length → gA ms i = ((F i : Int), (E i : Int))) ∧ PW (gA (r ++ C)) C.length F E ms.length ∧ (C.length = if ms.length = 0 then 0 else E (ms.length - 1))
  | [], C, r, h => by
    have h : C = [] := h
    exact ⟨fun _ => 0, fun _ => 0, (fun i hi => by cases hi), (fun i hi => by cases hi), congrArg List.length h⟩
  | m :: ms, C, r, h => by
    obtain ⟨c0, c1, c2, e, h0, hm, h1, h2⟩ := h
    obtain ⟨F, E, a1, a2, a3⟩ := WL.pw (r ++ (c2 ++ c1)) h0
    have er : r ++ (c2 ++ c1) ++ c0 = r ++ C := by rw [e]; simp
    rw [er] at a2
    have hl : C.length = c2.length + (c1 ++ c0).length := by rw [e, List.length_append]
    have hw2 : wfs (gA (r ++ C)) (c1 ++ c0).length C.length := by
      have := h2.wfs (post := r) (pre := c1 ++ c0)
      rw [← e] at this
      exact this
    have hfrom : (if ms.length = 0 then 0 else E (ms.length - 1)) = c0.length := a3.symm
    refine ⟨fun i => if i = ms.length then (c1 ++ c0).length else F i, fun i => if i = ms.length then C.length else E i, fun i hi => ?_, fun i hi => ?_, ?_⟩
    · have hi : i < ms.length + 1 := hi
      show (if i = ms.length then m else gA ms i) = (((if i = ms.length then (c1 ++ c0).length else F i : Nat) : Int), ((if i = ms.length then C.length else E i : Nat) : Int))
      by_cases hin : i = ms.length
      · rw [if_pos hin, if_pos hin, if_pos hin, hm]
      · rw [if_neg hin, if_neg hin, if_neg hin]
        exact a1 i (by omega)
    · have hi : i < ms.length + 1 := hi
      dsimp only
      by_cases hin : i = ms.length
      · subst hin
        have hpr : (if ms.length = 0 then 0 else if ms.length - 1 = ms.length then C.length else E (ms.length - 1)) = c0.length := by
          rw [← hfrom]
          by_cases hz : ms.length = 0
          · rw [if_pos hz, if_pos hz]
          · rw [if_neg hz, if_neg hz, if_neg (by omega)]
        rw [if_pos rfl, if_pos rfl, hpr]
        refine ⟨⟨Nat.le_refl _, by omega⟩, ?_, hw2⟩
        rcases h1 with h1 | h1
        · left
          rw [h1]
          rfl
        · right
          have := h1.wfs (post := r ++ c2) (pre := c0)
          have e3 : r ++ c2 ++ (c1 ++ c0) = r ++ C := by rw [e]; simp
          rw [e3] at this
          exact this
      · have h3 := a2 i (by omega)
        have hc0 : c0.length ≤ C.length := by
          rw [hl, List.length_append]
          omega
        rw [if_neg hin, if_neg hin, if_neg (show ¬ i - 1 = ms.length by omega)]
        exact ⟨⟨Nat.le_trans h3.1.1 hc0, h3.1.2⟩, h3.2⟩
    · show C.length = if ms.length + 1 = 0 then 0 else (if ms.length + 1 - 1 = ms.length then C.length else _)
      rw [if_neg (by omega), if_pos (by omega)]
/-- a part's number -/
def vAt (C : Nat → Int × Int) (nm : Int → Int32) (a b : Nat) : Int32 := ((evR C nm (b - a) a []).getD []).headD 0
theorem wfs.v {C : Nat → Int × Int} {a b : Nat} (h : wfs C a b) (nm : Int → Int32) : evR C nm (b - a) a [] = some [vAt C nm a b] := by
  obtain ⟨v, hv⟩ := h.2 nm
  unfold vAt
  rw [hv]
  rfl
/-- the first line that counts -/
def fwV (C : Nat → Int × Int) (nm : Int → Int32) (F E : Nat → Nat) : Nat → Nat → Nat → Int32
  | 0, _, _ => 0
  | k + 1, i, from_ => if F i = from_ ∨ ¬ vAt C nm from_ (F i) = 0 then vAt C nm (F i) (E i) else fwV C nm F E k (i + 1) (E i)
/-- the names, told -/
def nmF (a b c d e f : Int) (k : Int) : Int32 := if k = 0 then iI a else if k = 1 then iI b else if k = 2 then iI c else if k = 3 then iI d else if k = 4 then iI e else iI f
/-- a pile, the top first -/
def PL (f : Nat → Int32) : List Int32 → Prop
  | [] => True
  | x :: s => f s.length = x ∧ PL f s
theorem PL.up {f : Nat → Int32} {k : Nat} {x : Int32} : ∀ {s : List Int32}, PL f s → s.length ≤ k → PL (upd f k x) s
  | [], _, _ => trivial
  | y :: s, h, hk => by
    have hk : s.length + 1 ≤ k := hk
    exact ⟨(k_upn (by omega)).trans h.1, h.2.up (by omega)⟩
theorem PL.add {f : Nat → Int32} {x : Int32} {s : List Int32} (h : PL f s) : PL (upd f s.length x) (x :: s) := ⟨k_upe rfl, h.up (Nat.le_refl _)⟩
