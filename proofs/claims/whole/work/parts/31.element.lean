/-- both answer the same long; Q of their states -/
def prL (yX yM : Nat) (as : List Value) (w : Bool) (tl : mc_H) (kd : Nat) (σ μ : wS) (Q : wS → wS → Prop) : Prop := EvP 60 yX (.ref 0 :: as) (mkX w tl kd σ) (fun RX => EvP 60 yM (.ref 0 :: as) (mkM μ) (fun RM => ∃ v σ' μ', RX = (some (.long v), mkX w tl kd σ', 0, 0) ∧ RM = (some (.long v), mkM μ', 0, 0) ∧ Q σ' μ'))
/-- above the last place of a row -/
theorem i_above {x : Int32} {N : Nat} (hN : N < 2 ^ 31) (h0 : ¬ x < 0) (h1 : Int32.ofNat N ≤ x) : mc_cond .gt x (Int32.ofNat N - 1) = true := by
  refine decide_eq_true ?_
  cases N with
  | zero =>
    have e : Int32.ofNat 0 - 1 = -1 := by decide
    rw [e]
    have h1 : (0 : Int32) ≤ x := h1
    rw [Int32.le_iff_toInt_le] at h1
    rw [Int32.lt_iff_toInt_lt]
    have e1 : (-1 : Int32).toInt = -1 := by decide
    have e0 : (0 : Int32).toInt = 0 := by decide
    omega
  | succ N =>
    rw [i_sub1]
    exact (i_pred (by omega)).mpr h1
theorem i_below {n N : Nat} (hN : N < 2 ^ 31) (h : n < N) : mc_cond .gt (Int32.ofNat n) (Int32.ofNat N - 1) = false := by
  obtain ⟨N', rfl⟩ : ∃ z, N = z + 1 := ⟨N - 1, by omega⟩
  rw [i_sub1]
  exact (c_gt (by omega) (by omega)).trans (decide_eq_false (by omega))
set_option maxHeartbeats 4000000 in
theorem pr_element (s i : Int32) (w : Bool) (tl : mc_H) (kd : Nat) (σ μ : wS) (hS : I_S σ μ) : prL 152 272 [.int s, .int i] w tl kd σ μ (fun σ' μ' => σ' = σ ∧ μ' = μ) := by
  refine EvP.of (T := tb_X10_element) rfl rfl ?_
  dsimp only [mc_pad, mc_exp]
  rcases i_valid s 6 (by decide) with ⟨n, hn, rfl⟩ | h0 | ⟨h0, h1⟩
  · have c1 : mc_cond .lt (Int32.ofNat n) 0 = false := decide_eq_false (i_nonneg (by omega))
    have c2 : mc_cond .ge (Int32.ofNat n) 6 = false := (c_ge (b := 6) (by omega) (by omega)).trans (decide_eq_false (by omega))
    have c3 : mc_cond .gt (Int32.ofNat n) 5 = false := (c_gt (b := 5) (by omega) (by omega)).trans (decide_eq_false (by omega))
    have hin : mc_inb (Int32.ofNat n) 6 = true := i_inb hn (by decide)
    have ec : (Int32.ofNat n).toNatClampNeg = n := i_clamp (by omega)
    rcases hS n hn with ⟨a1, a2⟩ | ⟨a1, a2, a3, a4⟩ | ⟨a1, k, hk, a2, a3, N, hN, a4, a5, a6⟩
    · have d1 : mc_cond .ne (σ.2.2.1 58 (Int32.ofNat n).toNatClampNeg) 0 = false := by rw [ec, a1]; rfl
      have d2 : mc_cond .ne (μ.2.2.1 32 (Int32.ofNat n).toNatClampNeg) (-1) = false := by rw [ec, a2]; rfl
      repeat' first
        | refine GoP.st1 rfl ?_
        | refine GoP.st2 rfl ?_
        | (refine GoP.enter rfl rfl rfl ?_; dsimp only [mc_pad, mc_exp])
        | (refine GoP.rt rfl rfl ?_; try dsimp only [Option.toList, List.cons_append, List.nil_append])
        | (refine EvP.of rfl rfl ?_; dsimp only [mc_pad, mc_exp])
        | refine GoP.brt rfl (by assumption) ?_
        | refine GoP.brf rfl (by assumption) ?_
        | refine GoP.ck rfl (by assumption) ?_
      exact ⟨_, σ, μ, rfl, rfl, rfl, rfl⟩
    · have d1 : mc_cond .ne (σ.2.2.1 58 (Int32.ofNat n).toNatClampNeg) 0 = true := by rw [ec, a1]; rfl
      have d2 : mc_cond .ne (σ.2.2.1 58 (Int32.ofNat n).toNatClampNeg) 2 = true := by rw [ec, a1]; rfl
      have d3 : mc_cond .ne (μ.2.2.1 32 (Int32.ofNat n).toNatClampNeg) (-1) = true := by
        rw [ec, a2]
        exact decide_eq_true (fun q => by rw [q] at a3; exact absurd a3 (by decide))
      have d4 : mc_cond .lt (μ.2.2.1 32 (Int32.ofNat n).toNatClampNeg) 0 = false := by
        rw [ec, a2]
        exact decide_eq_false (Int32.not_lt.mpr a3)
      repeat' first
        | refine GoP.st1 rfl ?_
        | refine GoP.st2 rfl ?_
        | (refine GoP.enter rfl rfl rfl ?_; dsimp only [mc_pad, mc_exp])
        | (refine GoP.rt rfl rfl ?_; try dsimp only [Option.toList, List.cons_append, List.nil_append])
        | (refine EvP.of rfl rfl ?_; dsimp only [mc_pad, mc_exp])
        | refine GoP.brt rfl (by assumption) ?_
        | refine GoP.brf rfl (by assumption) ?_
        | refine GoP.ck rfl (by assumption) ?_
      exact ⟨_, σ, μ, rfl, rfl, rfl, rfl⟩
    · have d1 : mc_cond .ne (σ.2.2.1 58 (Int32.ofNat n).toNatClampNeg) 0 = true := by rw [ec, a1]; rfl
      have d2 : mc_cond .ne (σ.2.2.1 58 (Int32.ofNat n).toNatClampNeg) 2 = false := by rw [ec, a1]; rfl
      have hk5 : k = 0 ∨ k = 1 ∨ k = 2 ∨ k = 3 ∨ k = 4 := by omega
      have d3 : mc_cond .ne (μ.2.2.1 32 (Int32.ofNat n).toNatClampNeg) (-1) = true := by
        rw [ec, a3]
        rcases hk5 with rfl | rfl | rfl | rfl | rfl <;> decide
      have d4 : mc_cond .lt (μ.2.2.1 32 (Int32.ofNat n).toNatClampNeg) 0 = true := by
        rw [ec, a3]
        rcases hk5 with rfl | rfl | rfl | rfl | rfl <;> decide
      rcases i_valid i N (by omega) with ⟨j, hj, rfl⟩ | g0 | ⟨g0, g1⟩
      · have e1 : mc_cond .lt (Int32.ofNat j) 0 = false := decide_eq_false (i_nonneg (by omega))
        have e2 : mc_cond .ge (Int32.ofNat j) (σ.2.2.1 61 (Int32.ofNat n).toNatClampNeg) = false := by
          rw [ec, a4]
          exact (c_ge (by omega) (by omega)).trans (decide_eq_false (by omega))
        have e3 : mc_cond .gt (Int32.ofNat j) (μ.2.2.1 33 (Int32.ofNat n).toNatClampNeg - 1) = false := by
          rw [ec, a5]
          exact i_below (by omega) hj
        have f1 : Int32.ofNat n * 60 + Int32.ofNat j = Int32.ofNat (60 * n + j) := by
          rw [show (60 : Int32) = Int32.ofNat 60 from rfl, i_mul, i_add, Nat.mul_comm]
        have f2 : 60 * Int32.ofNat n + Int32.ofNat j = Int32.ofNat (60 * n + j) := by
          rw [show (60 : Int32) = Int32.ofNat 60 from rfl, i_mul, i_add]
        have e4 : mc_inb (Int32.ofNat n * 60 + Int32.ofNat j) 360 = true := by
          rw [f1]
          exact i_inb (by omega) (by decide)
        have e5 : mc_inb (60 * Int32.ofNat n + Int32.ofNat j) 360 = true := by
          rw [f2]
          exact i_inb (by omega) (by decide)
        have ev : σ.2.2.2 62 (Int32.ofNat n * 60 + Int32.ofNat j).toNatClampNeg = μ.2.2.2 34 (60 * Int32.ofNat n + Int32.ofNat j).toNatClampNeg := by
          rw [f1, f2, i_clamp (by omega)]
          exact a6 j hj
        repeat' first
          | refine GoP.st1 rfl ?_
          | refine GoP.st2 rfl ?_
          | (refine GoP.enter rfl rfl rfl ?_; dsimp only [mc_pad, mc_exp])
          | (refine GoP.rt rfl rfl ?_; try dsimp only [Option.toList, List.cons_append, List.nil_append])
          | (refine EvP.of rfl rfl ?_; dsimp only [mc_pad, mc_exp])
          | refine GoP.brt rfl (by assumption) ?_
          | refine GoP.brf rfl (by assumption) ?_
          | refine GoP.ck rfl (by assumption) ?_
        exact ⟨_, σ, μ, rfl, by rw [ev], rfl, rfl⟩
      · have e1 : mc_cond .lt i 0 = true := decide_eq_true g0
        repeat' first
          | refine GoP.st1 rfl ?_
          | refine GoP.st2 rfl ?_
          | (refine GoP.enter rfl rfl rfl ?_; dsimp only [mc_pad, mc_exp])
          | (refine GoP.rt rfl rfl ?_; try dsimp only [Option.toList, List.cons_append, List.nil_append])
          | (refine EvP.of rfl rfl ?_; dsimp only [mc_pad, mc_exp])
          | refine GoP.brt rfl (by assumption) ?_
          | refine GoP.brf rfl (by assumption) ?_
          | refine GoP.ck rfl (by assumption) ?_
        exact ⟨_, σ, μ, rfl, rfl, rfl, rfl⟩
      · have e1 : mc_cond .lt i 0 = false := decide_eq_false g0
        have e2 : mc_cond .ge i (σ.2.2.1 61 (Int32.ofNat n).toNatClampNeg) = true := by
          rw [ec, a4]
          exact decide_eq_true g1
        have e3 : mc_cond .gt i (μ.2.2.1 33 (Int32.ofNat n).toNatClampNeg - 1) = true := by
          rw [ec, a5]
          exact i_above (by omega) g0 g1
        repeat' first
          | refine GoP.st1 rfl ?_
          | refine GoP.st2 rfl ?_
          | (refine GoP.enter rfl rfl rfl ?_; dsimp only [mc_pad, mc_exp])
          | (refine GoP.rt rfl rfl ?_; try dsimp only [Option.toList, List.cons_append, List.nil_append])
          | (refine EvP.of rfl rfl ?_; dsimp only [mc_pad, mc_exp])
          | refine GoP.brt rfl (by assumption) ?_
          | refine GoP.brf rfl (by assumption) ?_
          | refine GoP.ck rfl (by assumption) ?_
        exact ⟨_, σ, μ, rfl, rfl, rfl, rfl⟩
  · have c1 : mc_cond .lt s 0 = true := decide_eq_true h0
    repeat' first
      | refine GoP.st1 rfl ?_
      | refine GoP.st2 rfl ?_
      | (refine GoP.enter rfl rfl rfl ?_; dsimp only [mc_pad, mc_exp])
      | (refine GoP.rt rfl rfl ?_; try dsimp only [Option.toList, List.cons_append, List.nil_append])
      | (refine EvP.of rfl rfl ?_; dsimp only [mc_pad, mc_exp])
      | refine GoP.brt rfl (by assumption) ?_
      | refine GoP.brf rfl (by assumption) ?_
      | refine GoP.ck rfl (by assumption) ?_
    exact ⟨_, σ, μ, rfl, rfl, rfl, rfl⟩
  · have c1 : mc_cond .lt s 0 = false := decide_eq_false h0
    have c2 : mc_cond .ge s 6 = true := decide_eq_true h1
    have c3 : mc_cond .gt s 5 = true := decide_eq_true ((i_pred (N := 5) (by decide)).mpr h1)
    repeat' first
      | refine GoP.st1 rfl ?_
      | refine GoP.st2 rfl ?_
      | (refine GoP.enter rfl rfl rfl ?_; dsimp only [mc_pad, mc_exp])
      | (refine GoP.rt rfl rfl ?_; try dsimp only [Option.toList, List.cons_append, List.nil_append])
      | (refine EvP.of rfl rfl ?_; dsimp only [mc_pad, mc_exp])
      | refine GoP.brt rfl (by assumption) ?_
      | refine GoP.brf rfl (by assumption) ?_
      | refine GoP.ck rfl (by assumption) ?_
    exact ⟨_, σ, μ, rfl, rfl, rfl, rfl⟩
