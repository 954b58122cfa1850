theorem mc_alt_mem : ∀ {alts : List (Bool × mc_S)} {S' : mc_S}, mc_alt alts = some S' → ∃ b, (b, S') ∈ alts
  | [], _, h => by cases h
  | (b, S) :: r, S', h => by
    cases b with
    | true =>
      simp only [mc_alt, cond_true, Option.some.injEq] at h
      subst h
      exact ⟨true, List.mem_cons_self⟩
    | false =>
      obtain ⟨b', h'⟩ := mc_alt_mem (show mc_alt r = some S' from h)
      exact ⟨b', List.mem_cons_of_mem _ h'⟩
/-- the answer's states have counted no less -/
def mc_up (c n : Nat) (o : Option mc_O) : Prop := match o with
  | some (.inl alts) => ∀ q ∈ alts, c ≤ q.2.2.2.2.2.1 ∧ n ≤ q.2.2.2.2.2.2
  | some (.inr (.inl (_, _, S))) => S.2.2.2.2.1 = c ∧ S.2.2.2.2.2 = n
  | _ => True
theorem mc_up_go {c n c' n' pc : Nat} {L : List (Option Value)} {st : List Value} {h : mc_H} (h1 : c ≤ c') (h2 : n ≤ n') : mc_up c n (mc_go (pc, L, st, h, c', n')) := fun q hq => by
  obtain rfl := List.mem_singleton.mp hq
  exact ⟨h1, h2⟩
theorem mc_up_ck {c n c' n' pc : Nat} {L : List (Option Value)} {st : List Value} {h : mc_H} {b : Bool} (h1 : c ≤ c') (h2 : n ≤ n') : mc_up c n (mc_ck b (pc, L, st, h, c', n')) := fun q hq => by
  obtain rfl := List.mem_singleton.mp hq
  exact ⟨h1, h2⟩
theorem mc_up_br {c n pc pc2 : Nat} {L : List (Option Value)} {st : List Value} {h : mc_H} {b : Bool} : mc_up c n (mc_br b (pc, L, st, h, c, n) (pc2, L, st, h, c, n)) := fun q hq => by
  rcases List.mem_cons.mp hq with rfl | hq
  · exact ⟨Nat.le_refl _, Nat.le_refl _⟩
  · obtain rfl := List.mem_singleton.mp hq
    exact ⟨Nat.le_refl _, Nat.le_refl _⟩
theorem mc_up_none {c n : Nat} : mc_up c n none := trivial
theorem mc_up_bif {c n : Nat} {b : Bool} {o : Option mc_O} (h : mc_up c n o) : mc_up c n (bif b then o else none) := by
  cases b
  · exact trivial
  · exact h
theorem mc_up_bif2 {c n : Nat} {b : Bool} {o o2 : Option mc_O} (h : mc_up c n o) (h2 : mc_up c n o2) : mc_up c n (bif b then o else o2) := by
  cases b
  · exact h2
  · exact h
theorem mc_up_sw {c n d : Nat} {x : Int32} {L : List (Option Value)} {st : List Value} {h : mc_H} : ∀ {sw : List (Int32 × Nat)}, ∀ q ∈ mc_sw x L st h c n d sw, c ≤ q.2.2.2.2.2.1 ∧ n ≤ q.2.2.2.2.2.2
  | [], q, hq => by
    obtain rfl := List.mem_singleton.mp hq
    exact ⟨Nat.le_refl _, Nat.le_refl _⟩
  | (v, t) :: r, q, hq => by
    rcases List.mem_cons.mp hq with rfl | hq
    · exact ⟨Nat.le_refl _, Nat.le_refl _⟩
    · exact mc_up_sw q hq
theorem mc_up_pop {c n b : Nat} {st acc : List Value} {k : List Value → List Value → Option mc_O} (h : ∀ as r, mc_up c n (k as r)) : mc_up c n (mc_pop b st acc k) := by
  cases hq : mc_pop b st acc k with
  | none => exact trivial
  | some x =>
    obtain ⟨as, r, -, -, h3⟩ := mc_pop_spec hq
    have h4 := h (as ++ acc) r
    rw [h3] at h4
    exact h4
theorem mc_up_putK {k c n nx a b : Nat} {L : List (Option Value)} {st : List Value} {h : mc_H} : mc_up c n (mc_putK k nx a b L st h c n) := by
  unfold mc_putK mc_put0 mc_put1 mc_put2 mc_put3
  repeat' split
  all_goals (try simp only [mc_set_eq])
  all_goals first
    | exact trivial
    | exact mc_up_bif (mc_up_go (Nat.le_refl _) (Nat.le_refl _))
    | exact mc_up_bif (mc_up_ck (Nat.le_refl _) (Nat.le_refl _))
    | exact mc_up_bif mc_up_none
    | exact mc_up_go (Nat.le_refl _) (Nat.le_refl _)
    | exact mc_up_ck (Nat.le_refl _) (Nat.le_refl _)
theorem mc_up_rows {c n nx q : Nat} {i : Int32} {L : List (Option Value)} {r : List Value} {h : mc_H} : mc_up c n (some (.inl [(decide (i = 0), (nx, L, .ref (q + 1) :: r, h, c, n)), (decide (i = 1), (nx, L, .ref (q + 2) :: r, h, c, n)), (decide (i = 2), (nx, L, .ref (q + 3) :: r, h, c, n)), (decide (i = 3), (nx, L, .ref (q + 4) :: r, h, c, n)), (decide (i = 4), (nx, L, .ref (q + 5) :: r, h, c, n)), (decide (i = 5), (nx, L, .ref (q + 6) :: r, h, c, n)), (decide (i = 6), (nx, L, .ref (q + 7) :: r, h, c, n)), (decide (i = 7), (nx, L, .ref (q + 8) :: r, h, c, n))])) := by
  intro z hz
  simp only [List.mem_cons, List.not_mem_nil, or_false] at hz
  rcases hz with rfl | rfl | rfl | rfl | rfl | rfl | rfl | rfl <;> exact ⟨Nat.le_refl _, Nat.le_refl _⟩
theorem mc_up_swo {c n d : Nat} {x : Int32} {L : List (Option Value)} {st : List Value} {h : mc_H} {sw : List (Int32 × Nat)} : mc_up c n (some (.inl (mc_sw x L st h c n d sw))) := mc_up_sw
theorem mc_up_call {c n y pc : Nat} {as st : List Value} {L : List (Option Value)} {h : mc_H} : mc_up c n (some (.inr (.inl (y, as, (pc, L, st, h, c, n))))) := ⟨rfl, rfl⟩
theorem mc_up_ret {c n : Nat} {v : Bool × Option Value} : mc_up c n (some (.inr (.inr v))) := trivial
set_option maxHeartbeats 4000000 in
theorem mc_up_stepI {ins : Instr} {nx a b : Nat} {iv : Int32} {lv : Int64} {sw : List (Int32 × Nat)} {vs : List Value} {L : List (Option Value)} {st : List Value} {h : mc_H} {c n : Nat} : mc_up c n (mc_stepI ins nx a b iv lv sw vs L st h c n) := by
  unfold mc_stepI
  simp only [mc_set_eq, mc_app_eq, mc_len_eq]
  split
  all_goals repeat' (first
    | with_reducible exact mc_up_none
    | with_reducible exact mc_up_go (Nat.le_refl _) (Nat.le_refl _)
    | with_reducible exact mc_up_ck (Nat.le_refl _) (Nat.le_refl _)
    | with_reducible exact mc_up_go (Nat.le_add_right _ _) (Nat.le_add_right _ _)
    | with_reducible exact mc_up_ck (Nat.le_add_right _ _) (Nat.le_add_right _ _)
    | with_reducible exact mc_up_br
    | with_reducible exact mc_up_putK
    | with_reducible exact mc_up_rows
    | with_reducible exact mc_up_swo
    | with_reducible exact mc_up_call
    | with_reducible exact mc_up_ret
    | with_reducible refine mc_up_bif ?_
    | with_reducible refine mc_up_bif2 ?_ ?_
    | with_reducible refine mc_up_pop (fun _ _ => ?_)
    | split)
