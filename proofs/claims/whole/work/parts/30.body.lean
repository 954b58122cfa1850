/-- bodies: their number, their kinds, the trace -/
def I_body (nx : Int32) (kx bx : Nat → Int32) (rx : Int32) (nm : Int32) (km bm : Nat → Int32) (rm : Int32) : Prop := (∃ nb : Nat, nb ≤ 50 ∧ nx = Int32.ofNat nb ∧ nm = Int32.ofNat nb ∧ ∀ j, j < nb → ∃ k : Nat, k < 8 ∧ kx j = Int32.ofNat k ∧ km j = Int32.ofNat k) ∧ ∃ r : Nat, r ≤ 1000 ∧ rx = Int32.ofNat r ∧ rm = Int32.ofNat r ∧ ∀ j, j < 24 → j < r → bx j = bm j
def I_B (σ μ : wS) : Prop := I_body (σ.1 5402) (σ.2.2.1 55) (σ.2.2.1 56) (σ.1 5403) (μ.1 48) (μ.2.2.1 30) (μ.2.2.1 31) (μ.1 50)
theorem I_shelf.more {hx nx sx lx : Nat → Int32} {cx : Nat → Int64} {hm sm : Nat → Int32} {em : Nat → Int64} {nb nb' : Int32} (hle : ∀ x : Int32, x < nb → x < nb') (h : I_shelf hx nx sx lx cx hm sm em nb) : I_shelf hx nx sx lx cx hm sm em nb' := by
  intro s hs
  rcases h s hs with h | ⟨h1, h2, h3, h4⟩ | h
  · exact Or.inl h
  · exact Or.inr (Or.inl ⟨h1, h2, h3, hle _ h4⟩)
  · exact Or.inr (Or.inr h)
set_option maxHeartbeats 4000000 in
theorem pr_body (k : Int32) (w : Bool) (tl : mc_H) (kd : Nat) (σ μ : wS) (hB : I_B σ μ) (hS : I_S σ μ) : prI 146 252 [.int k] w tl kd σ μ (fun σ' μ' => (∃ f x, σ' = sI (sA σ 55 f) 5402 x) ∧ (∃ f x, μ' = sI (sA μ 30 f) 48 x) ∧ I_B σ' μ' ∧ I_S σ' μ') := by
  have same : (∃ f x, σ = sI (sA σ 55 f) 5402 x) ∧ (∃ f x, μ = sI (sA μ 30 f) 48 x) ∧ I_B σ μ ∧ I_S σ μ := by
    refine ⟨⟨σ.2.2.1 55, σ.1 5402, ?_⟩, ⟨μ.2.2.1 30, μ.1 48, ?_⟩, hB, hS⟩
    · rw [sA_self]
      exact (sI_self σ 5402).symm
    · rw [sA_self]
      exact (sI_self μ 48).symm
  obtain ⟨⟨nb, hnb, hnx, hnm, hk⟩, htr⟩ := id hB
  refine EvP.of (T := tb_X10_body) rfl rfl ?_
  dsimp only [mc_pad, mc_exp]
  rcases i_valid k 8 (by decide) with ⟨z, hz, rfl⟩ | h0 | ⟨h0, h1⟩
  · have c1 : mc_cond .lt (Int32.ofNat z) 0 = false := decide_eq_false (i_nonneg (by omega))
    have c2 : mc_cond .lt (Int32.ofNat z) 8 = true := (c_lt (b := 8) (by omega) (by omega)).trans (decide_eq_true (by omega))
    have c3 : mc_cond .gt (Int32.ofNat z) 7 = false := (c_gt (b := 7) (by omega) (by omega)).trans (decide_eq_false (by omega))
    by_cases hf : nb < 50
    · have c4 : mc_cond .lt (σ.1 5402) 50 = true := by
        rw [hnx]
        exact (c_lt (b := 50) (by omega) (by omega)).trans (decide_eq_true (by omega))
      have c5 : mc_cond .ne (μ.1 48) 50 = true := by
        rw [hnm]
        exact decide_eq_true (fun q => by have := (i_eq (b := 50) (by omega) (by omega)).mp q; omega)
      have c6 : mc_inb (σ.1 5402) 50 = true := by
        rw [hnx]
        exact i_inb hf (by decide)
      have c7 : mc_inb (μ.1 48) 50 = true := by
        rw [hnm]
        exact i_inb hf (by decide)
      repeat' first
        | refine GoP.st1 rfl ?_
        | refine GoP.st2 rfl ?_
        | (refine GoP.enter rfl rfl rfl ?_; dsimp only [mc_pad, mc_exp])
        | (refine GoP.rt rfl rfl ?_; try dsimp only [Option.toList, List.cons_append, List.nil_append])
        | (refine EvP.of rfl rfl ?_; dsimp only [mc_pad, mc_exp])
        | refine GoP.brt rfl (by assumption) ?_
        | refine GoP.brf rfl (by assumption) ?_
        | refine GoP.ck rfl (by assumption) ?_
      refine ⟨σ.1 5402 + 1 - 1, sI (sA σ 55 (upd (σ.2.2.1 55) (σ.1 5402).toNatClampNeg (Int32.ofNat z))) 5402 (σ.1 5402 + 1), sI (sA μ 30 (upd (μ.2.2.1 30) (μ.1 48).toNatClampNeg (Int32.ofNat z))) 48 (μ.1 48 + 1), rfl, by rw [hnx, ← hnm]; rfl, ⟨_, _, rfl⟩, ⟨_, _, rfl⟩, ?_, ?_⟩
      · refine ⟨⟨nb + 1, by omega, ?_, ?_, ?_⟩, htr⟩
        · show σ.1 5402 + 1 = _
          rw [hnx]
          exact i_add nb 1
        · show μ.1 48 + 1 = _
          rw [hnm]
          exact i_add nb 1
        · intro j hj
          show ∃ k : Nat, k < 8 ∧ upd (σ.2.2.1 55) (σ.1 5402).toNatClampNeg (Int32.ofNat z) j = Int32.ofNat k ∧ upd (μ.2.2.1 30) (μ.1 48).toNatClampNeg (Int32.ofNat z) j = Int32.ofNat k
          rw [hnx, hnm, i_clamp (by omega), upd_at, upd_at]
          by_cases hjn : j = nb
          · rw [if_pos hjn, if_pos hjn]
            exact ⟨z, hz, rfl, rfl⟩
          · rw [if_neg hjn, if_neg hjn]
            exact hk j (by omega)
      · refine I_shelf.more (fun x hx => ?_) hS
        show x < σ.1 5402 + 1
        rw [hnx] at hx ⊢
        rw [show Int32.ofNat nb + 1 = Int32.ofNat (nb + 1) from i_add nb 1]
        rw [Int32.lt_iff_toInt_lt, i_int (by omega)] at hx ⊢
        omega
    · have hnb50 : nb = 50 := by omega
      have c4 : mc_cond .lt (σ.1 5402) 50 = false := by
        rw [hnx]
        exact (c_lt (b := 50) (by omega) (by omega)).trans (decide_eq_false (by omega))
      have c5 : mc_cond .ne (μ.1 48) 50 = false := by
        rw [hnm, hnb50]
        rfl
      repeat' first
        | refine GoP.st1 rfl ?_
        | refine GoP.st2 rfl ?_
        | (refine GoP.enter rfl rfl rfl ?_; dsimp only [mc_pad, mc_exp])
        | (refine GoP.rt rfl rfl ?_; try dsimp only [Option.toList, List.cons_append, List.nil_append])
        | (refine EvP.of rfl rfl ?_; dsimp only [mc_pad, mc_exp])
        | refine GoP.brt rfl (by assumption) ?_
        | refine GoP.brf rfl (by assumption) ?_
        | refine GoP.ck rfl (by assumption) ?_
      exact ⟨_, σ, μ, rfl, rfl, same⟩
  · have c1 : mc_cond .lt k 0 = true := decide_eq_true h0
    repeat' first
      | refine GoP.st1 rfl ?_
      | refine GoP.st2 rfl ?_
      | (refine GoP.enter rfl rfl rfl ?_; dsimp only [mc_pad, mc_exp])
      | (refine GoP.rt rfl rfl ?_; try dsimp only [Option.toList, List.cons_append, List.nil_append])
      | (refine EvP.of rfl rfl ?_; dsimp only [mc_pad, mc_exp])
      | refine GoP.brt rfl (by assumption) ?_
      | refine GoP.brf rfl (by assumption) ?_
      | refine GoP.ck rfl (by assumption) ?_
    exact ⟨_, σ, μ, rfl, rfl, same⟩
  · have c1 : mc_cond .lt k 0 = false := decide_eq_false h0
    have c2 : mc_cond .lt k 8 = false := decide_eq_false (fun q => by
      have h1 : (8 : Int32) ≤ k := h1
      rw [Int32.le_iff_toInt_le] at h1
      rw [Int32.lt_iff_toInt_lt] at q
      omega)
    have c3 : mc_cond .gt k 7 = true := decide_eq_true ((i_pred (N := 7) (by decide)).mpr h1)
    repeat' first
      | refine GoP.st1 rfl ?_
      | refine GoP.st2 rfl ?_
      | (refine GoP.enter rfl rfl rfl ?_; dsimp only [mc_pad, mc_exp])
      | (refine GoP.rt rfl rfl ?_; try dsimp only [Option.toList, List.cons_append, List.nil_append])
      | (refine EvP.of rfl rfl ?_; dsimp only [mc_pad, mc_exp])
      | refine GoP.brt rfl (by assumption) ?_
      | refine GoP.brf rfl (by assumption) ?_
      | refine GoP.ck rfl (by assumption) ?_
    exact ⟨_, σ, μ, rfl, rfl, same⟩

set_option maxHeartbeats 4000000 in
theorem pr_trace (i : Int32) (w : Bool) (tl : mc_H) (kd : Nat) (σ μ : wS) (hB : I_B σ μ) : prI 148 251 [.int i] w tl kd σ μ (fun σ' μ' => σ' = σ ∧ μ' = μ) := by
  obtain ⟨-, r, hr, hrx, hrm, hbt⟩ := hB
  refine EvP.of (T := tb_X10_trace) rfl rfl ?_
  dsimp only [mc_pad, mc_exp]
  rcases i_valid i (min r 24) (by omega) with ⟨n, hn, rfl⟩ | h0 | ⟨h0, h1⟩
  · have c1 : mc_cond .lt (Int32.ofNat n) 0 = false := decide_eq_false (i_nonneg (by omega))
    have c2 : mc_cond .ge (Int32.ofNat n) (σ.1 5403) = false := by
      rw [hrx]
      exact (c_ge (by omega) (by omega)).trans (decide_eq_false (by omega))
    have c3 : mc_cond .ge (Int32.ofNat n) (μ.1 50) = false := by
      rw [hrm]
      exact (c_ge (by omega) (by omega)).trans (decide_eq_false (by omega))
    have c4 : mc_cond .ge (Int32.ofNat n) 24 = false := (c_ge (b := 24) (by omega) (by omega)).trans (decide_eq_false (by omega))
    have c5 : mc_inb (Int32.ofNat n) 24 = true := i_inb (by omega) (by decide)
    have e : σ.2.2.1 56 (Int32.ofNat n).toNatClampNeg = μ.2.2.1 31 (Int32.ofNat n).toNatClampNeg := by
      rw [i_clamp (by omega)]
      exact hbt n (by omega) (by omega)
    repeat' first
      | refine GoP.st1 rfl ?_
      | refine GoP.st2 rfl ?_
      | (refine GoP.enter rfl rfl rfl ?_; dsimp only [mc_pad, mc_exp])
      | (refine GoP.rt rfl rfl ?_; try dsimp only [Option.toList, List.cons_append, List.nil_append])
      | (refine EvP.of rfl rfl ?_; dsimp only [mc_pad, mc_exp])
      | refine GoP.brt rfl (by assumption) ?_
      | refine GoP.brf rfl (by assumption) ?_
      | refine GoP.ck rfl (by assumption) ?_
      | refine GoP.br rfl (fun h => ?_) (fun h => ?_)
    · exact ⟨_, σ, μ, rfl, by rw [e], rfl, rfl⟩
    · exact ⟨_, σ, μ, rfl, by rw [e], rfl, rfl⟩
  · have c1 : mc_cond .lt i 0 = true := decide_eq_true h0
    repeat' first
      | refine GoP.st1 rfl ?_
      | refine GoP.st2 rfl ?_
      | (refine GoP.enter rfl rfl rfl ?_; dsimp only [mc_pad, mc_exp])
      | (refine GoP.rt rfl rfl ?_; try dsimp only [Option.toList, List.cons_append, List.nil_append])
      | (refine EvP.of rfl rfl ?_; dsimp only [mc_pad, mc_exp])
      | refine GoP.brt rfl (by assumption) ?_
      | refine GoP.brf rfl (by assumption) ?_
      | refine GoP.ck rfl (by assumption) ?_
    exact ⟨_, σ, μ, rfl, rfl, rfl, rfl⟩
  · have c1 : mc_cond .lt i 0 = false := decide_eq_false h0
    by_cases h24 : 24 < r
    · have c2 : mc_cond .gt (σ.1 5403) 24 = true := by
        rw [hrx]
        exact (c_gt (b := 24) (by omega) (by omega)).trans (decide_eq_true h24)
      have c3 : mc_cond .ge i 24 = true := by
        rw [show min r 24 = 24 by omega] at h1
        exact decide_eq_true h1
      repeat' first
        | refine GoP.st1 rfl ?_
        | refine GoP.st2 rfl ?_
        | (refine GoP.enter rfl rfl rfl ?_; dsimp only [mc_pad, mc_exp])
        | (refine GoP.rt rfl rfl ?_; try dsimp only [Option.toList, List.cons_append, List.nil_append])
        | (refine EvP.of rfl rfl ?_; dsimp only [mc_pad, mc_exp])
        | refine GoP.brt rfl (by assumption) ?_
        | refine GoP.brf rfl (by assumption) ?_
        | refine GoP.ck rfl (by assumption) ?_
        | refine GoP.br rfl (fun h => ?_) (fun h => ?_)
      · exact ⟨_, σ, μ, rfl, rfl, rfl, rfl⟩
      · exact ⟨_, σ, μ, rfl, rfl, rfl, rfl⟩
    · have c2 : mc_cond .gt (σ.1 5403) 24 = false := by
        rw [hrx]
        exact (c_gt (b := 24) (by omega) (by omega)).trans (decide_eq_false h24)
      rw [show min r 24 = r by omega] at h1
      have c3 : mc_cond .ge i (σ.1 5403) = true := by
        rw [hrx]
        exact decide_eq_true h1
      have c4 : mc_cond .ge i (μ.1 50) = true := by
        rw [hrm]
        exact decide_eq_true h1
      repeat' first
        | refine GoP.st1 rfl ?_
        | refine GoP.st2 rfl ?_
        | (refine GoP.enter rfl rfl rfl ?_; dsimp only [mc_pad, mc_exp])
        | (refine GoP.rt rfl rfl ?_; try dsimp only [Option.toList, List.cons_append, List.nil_append])
        | (refine EvP.of rfl rfl ?_; dsimp only [mc_pad, mc_exp])
        | refine GoP.brt rfl (by assumption) ?_
        | refine GoP.brf rfl (by assumption) ?_
        | refine GoP.ck rfl (by assumption) ?_
      exact ⟨_, σ, μ, rfl, rfl, rfl, rfl⟩
