theorem e_X8_isShelf (h : mc_H) (s : Int32) : Ev 1 77 [.int s] h (some (.int (b2 (!decide (s < 0) && !decide (6 ≤ s)))), h, 0, 0) := by
  refine (EvP.of (T := tb_X8_isShelf) rfl rfl ?_).ev
  repeat (refine GoP.st1 rfl ?_)
  refine GoP.br rfl (fun h1 => ?_) (fun h1 => ?_) <;> simp only [mc_cond] at h1 <;> repeat (refine GoP.st1 rfl ?_)
  · exact GoP.ret rfl rfl (by rw [h1]; rfl)
  · refine GoP.br rfl (fun h2 => ?_) (fun h2 => ?_) <;> simp only [mc_cond] at h2 <;> repeat (refine GoP.st1 rfl ?_)
    · exact GoP.ret rfl rfl (by rw [h1, h2]; rfl)
    · exact GoP.ret rfl rfl (by rw [h1, h2]; rfl)
/-- the row of a shelf is wiped -/
theorem loop_holdRow (w : Bool) (tl : mc_H) (kd : Nat) (s n : Nat) (hs : s < 6) (hn : n ≤ 60) (so : Int32) : ∀ (k i : Nat) (σ : wS), k + i = n → GoP 0 tb_X8_holdRow (24, [some (.ref 57), some (.int (Int32.ofNat s)), some (.int so), some (.int (Int32.ofNat n)), some (.int (Int32.ofNat i))], [], mkX w tl kd σ, 0, 0) (fun R => ∃ f, R = (none, mkX w tl kd (sB σ 62 f), 0, 0) ∧ ∀ j, f j = if 60 * s + i ≤ j ∧ j < 60 * s + n then 0 else σ.2.2.2 62 j)
  | 0, i, σ, h => by
    have hin : i = n := by omega
    subst hin
    repeat (refine GoP.st1 rfl ?_)
    refine GoP.br rfl (fun h1 => ?_) (fun h1 => ?_)
    · exact GoP.ret rfl rfl ⟨σ.2.2.2 62, rfl, fun j => by rw [if_neg (by omega)]⟩
    · have h1 : decide (Int32.ofNat i ≤ Int32.ofNat i) = false := h1
      exact absurd ((i_le (by omega) (by omega)).mpr (Nat.le_refl i)) (of_decide_eq_false h1)
  | k + 1, i, σ, h => by
    repeat (refine GoP.st1 rfl ?_)
    refine GoP.br rfl (fun h1 => ?_) (fun h1 => ?_)
    · have h1 : decide (Int32.ofNat n ≤ Int32.ofNat i) = true := h1
      have := (i_le (by omega) (by omega)).mp (of_decide_eq_true h1)
      omega
    · have e1 : Int32.ofNat s * 60 + Int32.ofNat i = Int32.ofNat (60 * s + i) := by
        rw [show (60 : Int32) = Int32.ofNat 60 from rfl, i_mul, i_add, Nat.mul_comm]
      have e2 : Int32.ofNat i + 1 = Int32.ofNat (i + 1) := i_add i 1
      repeat (refine GoP.st1 rfl ?_)
      refine GoP.ck rfl (by rw [e1]; exact i_inb (by omega) (by omega)) ?_
      iterate 2 (refine GoP.st1 rfl ?_)
      rw [e1, e2, i_clamp (show 60 * s + i < 2 ^ 31 by omega)]
      obtain ⟨R, hg, f, hR, hf⟩ := loop_holdRow w tl kd s n hs hn so k (i + 1) (sB σ 62 (vp_updL (σ.2.2.2 62) (60 * s + i) 0)) (by omega)
      refine ⟨R, hg, f, hR, fun j => ?_⟩
      rw [hf j]
      show (if _ then _ else vp_updL (σ.2.2.2 62) (60 * s + i) 0 j) = _
      rw [updL_at]
      split <;> split <;> first | rfl | (split <;> first | rfl | omega) | omega
