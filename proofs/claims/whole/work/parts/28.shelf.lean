/-- shelves: what the class holds, what the reference holds -/
def I_shelf (hx nx sx lx : Nat → Int32) (cx : Nat → Int64) (hm sm : Nat → Int32) (em : Nat → Int64) (nb : Int32) : Prop := ∀ s : Nat, s < 6 → (hx s = 0 ∧ hm s = -1) ∨ (hx s = 1 ∧ hm s = nx s ∧ 0 ≤ nx s ∧ nx s < nb) ∨ (hx s = 2 ∧ ∃ k : Nat, k < 5 ∧ sx s = Int32.ofNat k ∧ hm s = -2 - Int32.ofNat k ∧ ∃ n : Nat, n ≤ 60 ∧ lx s = Int32.ofNat n ∧ sm s = Int32.ofNat n ∧ ∀ j, j < n → cx (60 * s + j) = em (60 * s + j))
def I_S (σ μ : wS) : Prop := I_shelf (σ.2.2.1 58) (σ.2.2.1 59) (σ.2.2.1 60) (σ.2.2.1 61) (σ.2.2.2 62) (μ.2.2.1 32) (μ.2.2.1 33) (μ.2.2.2 34) (σ.1 5402)
/-- both answer the same int; Q of their states -/
def prI (yX yM : Nat) (as : List Value) (w : Bool) (tl : mc_H) (kd : Nat) (σ μ : wS) (Q : wS → wS → Prop) : Prop := EvP 60 yX (.ref 0 :: as) (mkX w tl kd σ) (fun RX => EvP 60 yM (.ref 0 :: as) (mkM μ) (fun RM => ∃ v σ' μ', RX = (some (.int v), mkX w tl kd σ', 0, 0) ∧ RM = (some (.int v), mkM μ', 0, 0) ∧ Q σ' μ'))
theorem i_valid (s : Int32) (N : Nat) (hN : N < 2 ^ 31) : (∃ n, n < N ∧ s = Int32.ofNat n) ∨ s < 0 ∨ (¬ s < 0 ∧ Int32.ofNat N ≤ s) := by
  by_cases h0 : s < 0
  · exact Or.inr (Or.inl h0)
  · by_cases h1 : Int32.ofNat N ≤ s
    · exact Or.inr (Or.inr ⟨h0, h1⟩)
    · exact Or.inl (i_nat hN h0 h1)
theorem c_lt {a b : Nat} (ha : a < 2 ^ 31) (hb : b < 2 ^ 31) : mc_cond .lt (Int32.ofNat a) (Int32.ofNat b) = decide (a < b) := decide_eq_decide.mpr (i_lt ha hb)
theorem c_ge {a b : Nat} (ha : a < 2 ^ 31) (hb : b < 2 ^ 31) : mc_cond .ge (Int32.ofNat a) (Int32.ofNat b) = decide (b ≤ a) := decide_eq_decide.mpr (i_le hb ha)
theorem c_gt {a b : Nat} (ha : a < 2 ^ 31) (hb : b < 2 ^ 31) : mc_cond .gt (Int32.ofNat a) (Int32.ofNat b) = decide (b < a) := decide_eq_decide.mpr (i_lt hb ha)
theorem c_le {a b : Nat} (ha : a < 2 ^ 31) (hb : b < 2 ^ 31) : mc_cond .le (Int32.ofNat a) (Int32.ofNat b) = decide (a ≤ b) := decide_eq_decide.mpr (i_le ha hb)
theorem c_eq {a b : Nat} (ha : a < 2 ^ 31) (hb : b < 2 ^ 31) : mc_cond .eq (Int32.ofNat a) (Int32.ofNat b) = decide (a = b) := decide_eq_decide.mpr (i_eq ha hb)
theorem i_nonneg {n : Nat} (h : n < 2 ^ 31) : ¬ Int32.ofNat n < 0 := fun q => by
  have := (i_lt (b := 0) h (by decide)).mp q
  omega
/-- an int above a number is above the one below it -/
theorem i_pred {x : Int32} {N : Nat} (hN : N + 1 < 2 ^ 31) : Int32.ofNat N < x ↔ Int32.ofNat (N + 1) ≤ x := by
  rw [Int32.lt_iff_toInt_lt, Int32.le_iff_toInt_le, i_int (by omega), i_int hN]
  omega
theorem i_sub1 {N : Nat} : Int32.ofNat (N + 1) - 1 = Int32.ofNat N := nI_pred N
set_option maxHeartbeats 4000000 in
theorem pr_keep (s b : Int32) (w : Bool) (tl : mc_H) (kd : Nat) (σ μ : wS) (hS : I_S σ μ) (hnb : σ.1 5402 = μ.1 48) (hnb2 : ∃ nb : Nat, nb ≤ 50 ∧ σ.1 5402 = Int32.ofNat nb) : prI 149 268 [.int s, .int b] w tl kd σ μ (fun σ' μ' => (∃ f g, σ' = sA (sA σ 58 f) 59 g) ∧ (∃ f, μ' = sA μ 32 f) ∧ I_S σ' μ') := by
  have same : (∃ f g, σ = sA (sA σ 58 f) 59 g) ∧ (∃ f, μ = sA μ 32 f) ∧ I_S σ μ := by
    refine ⟨⟨σ.2.2.1 58, σ.2.2.1 59, ?_⟩, ⟨μ.2.2.1 32, ?_⟩, hS⟩
    · rw [sA_self]
      exact (sA_self σ 59).symm
    · exact (sA_self μ 32).symm
  obtain ⟨nb, hnb3, hnb4⟩ := hnb2
  refine EvP.of (T := tb_X10_keep) rfl rfl ?_
  dsimp only [mc_pad, mc_exp]
  rcases i_valid s 6 (by decide) with ⟨n, hn, rfl⟩ | h0 | ⟨h0, h1⟩
  · have c1 : mc_cond .lt (Int32.ofNat n) 0 = false := decide_eq_false (i_nonneg (by omega))
    have c2 : mc_cond .ge (Int32.ofNat n) 6 = false := (c_ge (b := 6) (by omega) (by omega)).trans (decide_eq_false (by omega))
    have c3 : mc_cond .gt (Int32.ofNat n) 5 = false := (c_gt (b := 5) (by omega) (by omega)).trans (decide_eq_false (by omega))
    have hin : mc_inb (Int32.ofNat n) 6 = true := i_inb hn (by decide)
    rcases i_valid b nb (by omega) with ⟨k, hk, rfl⟩ | g0 | ⟨g0, g1⟩
    · have c4 : mc_cond .eq (Int32.ofNat k) (-1) = false := decide_eq_false (fun q => i_nonneg (n := k) (by omega) (by rw [q]; decide))
      have c5 : mc_cond .lt (Int32.ofNat k) 0 = false := decide_eq_false (i_nonneg (by omega))
      have c6 : mc_cond .ge (Int32.ofNat k) (σ.1 5402) = false := by
        rw [hnb4]
        exact (c_ge (by omega) (by omega)).trans (decide_eq_false (by omega))
      have c7 : mc_cond .gt (Int32.ofNat k) (μ.1 48 - 1) = false := by
        rw [← hnb, hnb4]
        obtain ⟨nb', rfl⟩ : ∃ z, nb = z + 1 := ⟨nb - 1, by omega⟩
        rw [i_sub1]
        exact (c_gt (by omega) (by omega)).trans (decide_eq_false (by omega))
      have c8 : mc_cond .ge (Int32.ofNat k) 0 = true := (c_ge (b := 0) (by omega) (by omega)).trans (decide_eq_true (by omega))
      repeat' first
        | refine GoP.st1 rfl ?_
        | refine GoP.st2 rfl ?_
        | (refine GoP.enter rfl rfl rfl ?_; dsimp only [mc_pad, mc_exp])
        | (refine GoP.rt rfl rfl ?_; try dsimp only [Option.toList, List.cons_append, List.nil_append])
        | (refine EvP.of rfl rfl ?_; dsimp only [mc_pad, mc_exp])
        | refine GoP.brt rfl (by assumption) ?_
        | refine GoP.brf rfl (by assumption) ?_
        | refine GoP.ck rfl (by assumption) ?_
      refine ⟨_, sA (sA σ 58 (upd (σ.2.2.1 58) (Int32.ofNat n).toNatClampNeg 1)) 59 (upd (σ.2.2.1 59) (Int32.ofNat n).toNatClampNeg (Int32.ofNat k)), sA μ 32 (upd (μ.2.2.1 32) (Int32.ofNat n).toNatClampNeg (Int32.ofNat k)), rfl, rfl, ⟨_, _, rfl⟩, ⟨_, rfl⟩, ?_⟩
      rw [i_clamp (by omega)]
      intro t ht
      by_cases htn : t = n
      · subst htn
        refine Or.inr (Or.inl ⟨if_pos rfl, (if_pos rfl).trans (if_pos rfl).symm, ?_, ?_⟩)
        · show 0 ≤ upd (σ.2.2.1 59) t (Int32.ofNat k) t
          rw [upd_at, if_pos rfl]
          exact (i_le (a := 0) (by omega) (by omega)).mpr (by omega)
        · show upd (σ.2.2.1 59) t (Int32.ofNat k) t < σ.1 5402
          rw [upd_at, if_pos rfl, hnb4]
          exact (i_lt (by omega) (by omega)).mpr hk
      · have h := hS t ht
        show (upd (σ.2.2.1 58) n 1 t = 0 ∧ upd (μ.2.2.1 32) n (Int32.ofNat k) t = -1) ∨ (upd (σ.2.2.1 58) n 1 t = 1 ∧ upd (μ.2.2.1 32) n (Int32.ofNat k) t = upd (σ.2.2.1 59) n (Int32.ofNat k) t ∧ 0 ≤ upd (σ.2.2.1 59) n (Int32.ofNat k) t ∧ upd (σ.2.2.1 59) n (Int32.ofNat k) t < σ.1 5402) ∨ (upd (σ.2.2.1 58) n 1 t = 2 ∧ ∃ z : Nat, z < 5 ∧ σ.2.2.1 60 t = Int32.ofNat z ∧ upd (μ.2.2.1 32) n (Int32.ofNat k) t = -2 - Int32.ofNat z ∧ _)
        rw [upd_at, upd_at, upd_at, if_neg htn, if_neg htn, if_neg htn]
        exact h
    · by_cases hb1 : b = -1
      · subst hb1
        repeat' first
          | refine GoP.st1 rfl ?_
          | refine GoP.st2 rfl ?_
          | (refine GoP.enter rfl rfl rfl ?_; dsimp only [mc_pad, mc_exp])
          | (refine GoP.rt rfl rfl ?_; try dsimp only [Option.toList, List.cons_append, List.nil_append])
          | (refine EvP.of rfl rfl ?_; dsimp only [mc_pad, mc_exp])
          | refine GoP.brt rfl (by assumption) ?_
          | refine GoP.brf rfl (by assumption) ?_
          | refine GoP.ck rfl (by assumption) ?_
        refine ⟨_, sA (sA σ 58 (upd (σ.2.2.1 58) (Int32.ofNat n).toNatClampNeg 0)) 59 (upd (σ.2.2.1 59) (Int32.ofNat n).toNatClampNeg (-1)), sA μ 32 (upd (μ.2.2.1 32) (Int32.ofNat n).toNatClampNeg (-1)), rfl, rfl, ⟨_, _, rfl⟩, ⟨_, rfl⟩, ?_⟩
        rw [i_clamp (by omega)]
        intro t ht
        by_cases htn : t = n
        · subst htn
          exact Or.inl ⟨if_pos rfl, if_pos rfl⟩
        · have h := hS t ht
          show (upd (σ.2.2.1 58) n 0 t = 0 ∧ upd (μ.2.2.1 32) n (-1) t = -1) ∨ (upd (σ.2.2.1 58) n 0 t = 1 ∧ upd (μ.2.2.1 32) n (-1) t = upd (σ.2.2.1 59) n (-1) t ∧ 0 ≤ upd (σ.2.2.1 59) n (-1) t ∧ upd (σ.2.2.1 59) n (-1) t < σ.1 5402) ∨ (upd (σ.2.2.1 58) n 0 t = 2 ∧ ∃ z : Nat, z < 5 ∧ σ.2.2.1 60 t = Int32.ofNat z ∧ upd (μ.2.2.1 32) n (-1) t = -2 - Int32.ofNat z ∧ _)
          rw [upd_at, upd_at, upd_at, if_neg htn, if_neg htn, if_neg htn]
          exact h
      · have c4 : mc_cond .eq b (-1) = false := decide_eq_false hb1
        have c5 : mc_cond .lt b 0 = true := decide_eq_true g0
        repeat' first
          | refine GoP.st1 rfl ?_
          | refine GoP.st2 rfl ?_
          | (refine GoP.enter rfl rfl rfl ?_; dsimp only [mc_pad, mc_exp])
          | (refine GoP.rt rfl rfl ?_; try dsimp only [Option.toList, List.cons_append, List.nil_append])
          | (refine EvP.of rfl rfl ?_; dsimp only [mc_pad, mc_exp])
          | refine GoP.brt rfl (by assumption) ?_
          | refine GoP.brf rfl (by assumption) ?_
          | refine GoP.ck rfl (by assumption) ?_
        exact ⟨_, σ, μ, rfl, rfl, same⟩
    · have c4 : mc_cond .eq b (-1) = false := decide_eq_false (fun q => g0 (by rw [q]; decide))
      have c5 : mc_cond .lt b 0 = false := decide_eq_false g0
      have c6 : mc_cond .ge b (σ.1 5402) = true := by
        rw [hnb4]
        exact decide_eq_true g1
      have c7 : mc_cond .gt b (μ.1 48 - 1) = true := by
        rw [← hnb, hnb4]
        refine decide_eq_true ?_
        cases nb with
        | zero =>
          have e : Int32.ofNat 0 - 1 = -1 := by decide
          rw [e]
          have g1 : (0 : Int32) ≤ b := g1
          rw [Int32.le_iff_toInt_le] at g1
          rw [Int32.lt_iff_toInt_lt]
          have e1 : (-1 : Int32).toInt = -1 := by decide
          have e0 : (0 : Int32).toInt = 0 := by decide
          omega
        | succ nb' =>
          rw [i_sub1]
          exact (i_pred (by omega)).mpr g1
      repeat' first
        | refine GoP.st1 rfl ?_
        | refine GoP.st2 rfl ?_
        | (refine GoP.enter rfl rfl rfl ?_; dsimp only [mc_pad, mc_exp])
        | (refine GoP.rt rfl rfl ?_; try dsimp only [Option.toList, List.cons_append, List.nil_append])
        | (refine EvP.of rfl rfl ?_; dsimp only [mc_pad, mc_exp])
        | refine GoP.brt rfl (by assumption) ?_
        | refine GoP.brf rfl (by assumption) ?_
        | refine GoP.ck rfl (by assumption) ?_
      exact ⟨_, σ, μ, rfl, rfl, same⟩
  · have c1 : mc_cond .lt s 0 = true := decide_eq_true h0
    repeat' first
      | refine GoP.st1 rfl ?_
      | refine GoP.st2 rfl ?_
      | (refine GoP.enter rfl rfl rfl ?_; dsimp only [mc_pad, mc_exp])
      | (refine GoP.rt rfl rfl ?_; try dsimp only [Option.toList, List.cons_append, List.nil_append])
      | (refine EvP.of rfl rfl ?_; dsimp only [mc_pad, mc_exp])
      | refine GoP.brt rfl (by assumption) ?_
      | refine GoP.brf rfl (by assumption) ?_
      | refine GoP.ck rfl (by assumption) ?_
    exact ⟨_, σ, μ, rfl, rfl, same⟩
  · have c1 : mc_cond .lt s 0 = false := decide_eq_false h0
    have c2 : mc_cond .ge s 6 = true := decide_eq_true h1
    have c3 : mc_cond .gt s 5 = true := decide_eq_true ((i_pred (N := 5) (by decide)).mpr h1)
    repeat' first
      | refine GoP.st1 rfl ?_
      | refine GoP.st2 rfl ?_
      | (refine GoP.enter rfl rfl rfl ?_; dsimp only [mc_pad, mc_exp])
      | (refine GoP.rt rfl rfl ?_; try dsimp only [Option.toList, List.cons_append, List.nil_append])
      | (refine EvP.of rfl rfl ?_; dsimp only [mc_pad, mc_exp])
      | refine GoP.brt rfl (by assumption) ?_
      | refine GoP.brf rfl (by assumption) ?_
      | refine GoP.ck rfl (by assumption) ?_
    exact ⟨_, σ, μ, rfl, rfl, same⟩
