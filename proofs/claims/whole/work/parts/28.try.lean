/-- shelves: what the class holds, what the reference holds -/
def I_shelf (hx nx sx lx : Nat → Int32) (cx : Nat → Int64) (hm sm : Nat → Int32) (em : Nat → Int64) (nb : Int32) : Prop := ∀ s : Nat, s < 6 → (hx s = 0 ∧ hm s = -1) ∨ (hx s = 1 ∧ hm s = nx s ∧ 0 ≤ nx s ∧ nx s < nb) ∨ (hx s = 2 ∧ ∃ k : Nat, k < 5 ∧ sx s = Int32.ofNat k ∧ hm s = -2 - Int32.ofNat k ∧ ∃ n : Nat, n ≤ 60 ∧ lx s = Int32.ofNat n ∧ sm s = Int32.ofNat n ∧ ∀ j, j < n → cx (60 * s + j) = em (60 * s + j))
def I_S (σ μ : wS) : Prop := I_shelf (σ.2.2.1 58) (σ.2.2.1 59) (σ.2.2.1 60) (σ.2.2.1 61) (σ.2.2.2 62) (μ.2.2.1 32) (μ.2.2.1 33) (μ.2.2.2 34) (σ.1 5402)
def RelT : lw_R := fun hX hM _ _ => ∃ (w : Bool) (tl : mc_H) (kd : Nat) (σ μ : wS), hX = mkX w tl kd σ ∧ hM = mkM μ ∧ I_S σ μ ∧ σ.1 5402 = μ.1 48
theorem i_lo {x : Int32} : mc_cond .lt x 0 = decide (x.toInt < 0) := by
  simp only [mc_cond, Int32.lt_iff_toInt_lt]
  rfl
theorem pr_keep (s b : Int32) : pairI RelT 149 268 [.int s, .int b] := by
  refine pairI_of fun hX hM kc kn hR => ?_
  obtain ⟨w, tl, kd, σ, μ, rfl, rfl, hS, hb⟩ := hR
  refine EvP.of (T := tb_X10_keep) rfl rfl ?_
  dsimp only [mc_pad, mc_exp]
  repeat' first
    | refine GoP.st1 rfl ?_
    | refine GoP.st2 rfl ?_
    | (refine GoP.enter rfl rfl rfl ?_; dsimp only [mc_pad, mc_exp])
    | (refine GoP.rt rfl rfl ?_; dsimp only [Option.toList, List.cons_append, List.nil_append])
    | (refine EvP.of rfl rfl ?_; dsimp only [mc_pad, mc_exp])
    | refine GoP.brt rfl (by assumption) ?_
    | refine GoP.brf rfl (by assumption) ?_
    | refine GoP.br rfl (fun h => ?_) (fun h => ?_)
  done
