/-- the image: none, or of m dishes -/
def I_I (n : Nat) (σ μ : wS) : Prop := (σ.1 10 = 0 ∧ μ.1 45 = iI (-1)) ∨ (σ.1 10 = 1 ∧ ∃ (m : Nat) (s : Nat → Nat), m ≤ n ∧ σ.1 5212 = iI (m : Int) ∧ μ.1 45 = iI (m : Int) ∧ DD n (fun k => σ.1 (5200 + k)) (μ.2.2.1 28) (μ.2.2.1 29) (fun j => μ.2.2.1 29 (9 + j)) (fun j => μ.2.2.1 29 (18 + j)) ∧ ∀ j, j < m → σ.2.2.1 53 j = iI (s j : Int) ∧ μ.2.2.1 29 (27 + j) = iI (s j : Int) ∧ s j ≤ 9)
theorem I_I.up {n n' : Nat} {σ μ : wS} (h : I_I n σ μ) (hn : n ≤ n') : I_I n' σ μ := by
  rcases h with h | ⟨h1, m, s, h2, h3, h4, h5, h6⟩
  · exact Or.inl h
  · exact Or.inr ⟨h1, m, s, by omega, h3, h4, h5.up hn, h6⟩
section
variable {w : Bool} {T : tT} {M : kM} {σ μ : wS}
/-- what the reference's image holds -/
def imE (μ0 μ' : wS) (t : Nat) : Prop := ∀ j, j < t → μ'.2.2.1 29 j = μ0.2.2.1 25 j ∧ μ'.2.2.1 29 (9 + j) = μ0.2.2.1 26 j ∧ μ'.2.2.1 29 (18 + j) = μ0.2.2.1 27 j ∧ μ'.2.2.1 29 (27 + j) = μ0.2.2.1 1 (27 + j)
set_option maxRecDepth 100000 in
set_option maxHeartbeats 4000000 in
theorem lm_im2 {D : Nat} {μ0 : wS} : ∀ (k d : Nat) (μ : wS), d + k = 9 → (∀ j, j < 5 → μ.2.2.1 28 j = μ0.2.2.1 24 j) → imE μ0 μ d → Fr [45] [] [28, 29] [] μ0 μ → GoP D tb_X11_image (35, [some (.ref 0), some (.int (iI (d : Int)))], [], mkM μ, 0, 0) (fun R => ∃ μ', R = (some (.int (μ0.2.2.1 24 0)), mkM μ', 0, 0) ∧ μ'.1 45 = μ.1 45 ∧ (∀ j, j < 5 → μ'.2.2.1 28 j = μ0.2.2.1 24 j) ∧ imE μ0 μ' 9 ∧ Fr [45] [] [28, 29] [] μ0 μ') := by
  intro k
  induction k with
  | zero =>
    intro d μ hd h28 h29 hF
    obtain rfl : d = 9 := by omega
    repeat' first
      | ((with_reducible apply GoP.k0); exact rfl; exact rfl)
      | ((with_reducible apply GoP.k1); exact rfl; exact rfl; all_goals (intro h; (try simp (disch := omega) only [jJ_lit, jJ_add, jJ_mul, iI_long, jJ_toI, l_lt, l_ge, l_gt, l_le, l_eq, l_ne, jJ_inj, k_ule, k_uln, iI_lit, iI_nat, iI_neg, iI_add, iI_sub, iI_mul, k_lt, k_ge, k_gt, k_le, k_eq, k_ne, k_cl, k_in, iI_inj, k_upe, k_upn, k_wue, k_wun, sI_1, sI_2, sI_3, sI_4, sJ_1, sJ_2, sJ_3, sJ_4, sA_1, sA_2, sA_3, sA_4, sB_1, sB_2, sB_3, sB_4, decide_eq_true_eq, decide_eq_false_iff_not, reduceCtorEq, Int.toNat_natCast, Bool.and_true, mc_tf, List.getD_cons_zero, List.getD_cons_succ, Int.reduceToNat, Int.reduceAdd, Int.reduceSub, Int.reduceMul, Int.reduceNeg, Int.reduceLT, Int.reduceLE, Int.reduceEq, not_true_eq_false, not_false_eq_true, decide_true, decide_false] at h); (try (exfalso; omega))))
      | ((with_reducible apply GoP.k2); exact rfl; exact rfl; focus ((simp (disch := omega) only [jJ_lit, jJ_add, jJ_mul, iI_long, jJ_toI, l_lt, l_ge, l_gt, l_le, l_eq, l_ne, jJ_inj, k_ule, k_uln, iI_lit, iI_nat, iI_neg, iI_add, iI_sub, iI_mul, k_lt, k_ge, k_gt, k_le, k_eq, k_ne, k_cl, k_in, iI_inj, k_upe, k_upn, k_wue, k_wun, sI_1, sI_2, sI_3, sI_4, sJ_1, sJ_2, sJ_3, sJ_4, sA_1, sA_2, sA_3, sA_4, sB_1, sB_2, sB_3, sB_4, decide_eq_true_eq, decide_eq_false_iff_not, reduceCtorEq, Int.toNat_natCast, Bool.and_true, mc_tf, List.getD_cons_zero, List.getD_cons_succ, Int.reduceToNat, Int.reduceAdd, Int.reduceSub, Int.reduceMul, Int.reduceNeg, Int.reduceLT, Int.reduceLE, Int.reduceEq, not_true_eq_false, not_false_eq_true, decide_true, decide_false]) <;> omega))
      | ((with_reducible apply GoP.k4); exact rfl; exact rfl; exact rfl; try dsimp only [Option.toList, List.cons_append, List.nil_append])
      | ((with_reducible apply GoP.k5); exact rfl; exact rfl)
      | ((with_reducible apply GoA.sw); all_goals (intro h; (try simp (disch := omega) only [jJ_lit, jJ_add, jJ_mul, iI_long, jJ_toI, l_lt, l_ge, l_gt, l_le, l_eq, l_ne, jJ_inj, k_ule, k_uln, iI_lit, iI_nat, iI_neg, iI_add, iI_sub, iI_mul, k_lt, k_ge, k_gt, k_le, k_eq, k_ne, k_cl, k_in, iI_inj, k_upe, k_upn, k_wue, k_wun, sI_1, sI_2, sI_3, sI_4, sJ_1, sJ_2, sJ_3, sJ_4, sA_1, sA_2, sA_3, sA_4, sB_1, sB_2, sB_3, sB_4, decide_eq_true_eq, decide_eq_false_iff_not, reduceCtorEq, Int.toNat_natCast, Bool.and_true, mc_tf, List.getD_cons_zero, List.getD_cons_succ, Int.reduceToNat, Int.reduceAdd, Int.reduceSub, Int.reduceMul, Int.reduceNeg, Int.reduceLT, Int.reduceLE, Int.reduceEq, not_true_eq_false, not_false_eq_true, decide_true, decide_false] at h); (try (exfalso; omega))))
      | ((with_reducible apply GoA.sw0))
      | ((with_reducible apply GoA.c); all_goals (intro h; (try simp (disch := omega) only [jJ_lit, jJ_add, jJ_mul, iI_long, jJ_toI, l_lt, l_ge, l_gt, l_le, l_eq, l_ne, jJ_inj, k_ule, k_uln, iI_lit, iI_nat, iI_neg, iI_add, iI_sub, iI_mul, k_lt, k_ge, k_gt, k_le, k_eq, k_ne, k_cl, k_in, iI_inj, k_upe, k_upn, k_wue, k_wun, sI_1, sI_2, sI_3, sI_4, sJ_1, sJ_2, sJ_3, sJ_4, sA_1, sA_2, sA_3, sA_4, sB_1, sB_2, sB_3, sB_4, decide_eq_true_eq, decide_eq_false_iff_not, reduceCtorEq, Int.toNat_natCast, Bool.and_true, mc_tf, List.getD_cons_zero, List.getD_cons_succ, Int.reduceToNat, Int.reduceAdd, Int.reduceSub, Int.reduceMul, Int.reduceNeg, Int.reduceLT, Int.reduceLE, Int.reduceEq, not_true_eq_false, not_false_eq_true, decide_true, decide_false] at h); (try (exfalso; omega))))
    exact ⟨μ, R_int (congrFun (hF.2.2.1 24 (by decide)) 0) rfl, rfl, h28, h29, hF⟩
  | succ k ih =>
    intro d μ hd h28 h29 hF
    refine GoP.st1 rfl ?_
    repeat' first
      | ((with_reducible show GoP _ _ (35, _) _); refine Hold.of ?_)
      | ((with_reducible apply GoP.k0); exact rfl; exact rfl)
      | ((with_reducible apply GoP.k1); exact rfl; exact rfl; all_goals (intro h; (try simp (disch := omega) only [jJ_lit, jJ_add, jJ_mul, iI_long, jJ_toI, l_lt, l_ge, l_gt, l_le, l_eq, l_ne, jJ_inj, k_ule, k_uln, iI_lit, iI_nat, iI_neg, iI_add, iI_sub, iI_mul, k_lt, k_ge, k_gt, k_le, k_eq, k_ne, k_cl, k_in, iI_inj, k_upe, k_upn, k_wue, k_wun, sI_1, sI_2, sI_3, sI_4, sJ_1, sJ_2, sJ_3, sJ_4, sA_1, sA_2, sA_3, sA_4, sB_1, sB_2, sB_3, sB_4, decide_eq_true_eq, decide_eq_false_iff_not, reduceCtorEq, Int.toNat_natCast, Bool.and_true, mc_tf, List.getD_cons_zero, List.getD_cons_succ, Int.reduceToNat, Int.reduceAdd, Int.reduceSub, Int.reduceMul, Int.reduceNeg, Int.reduceLT, Int.reduceLE, Int.reduceEq, not_true_eq_false, not_false_eq_true, decide_true, decide_false] at h); (try (exfalso; omega))))
      | ((with_reducible apply GoP.k2); exact rfl; exact rfl; focus ((simp (disch := omega) only [jJ_lit, jJ_add, jJ_mul, iI_long, jJ_toI, l_lt, l_ge, l_gt, l_le, l_eq, l_ne, jJ_inj, k_ule, k_uln, iI_lit, iI_nat, iI_neg, iI_add, iI_sub, iI_mul, k_lt, k_ge, k_gt, k_le, k_eq, k_ne, k_cl, k_in, iI_inj, k_upe, k_upn, k_wue, k_wun, sI_1, sI_2, sI_3, sI_4, sJ_1, sJ_2, sJ_3, sJ_4, sA_1, sA_2, sA_3, sA_4, sB_1, sB_2, sB_3, sB_4, decide_eq_true_eq, decide_eq_false_iff_not, reduceCtorEq, Int.toNat_natCast, Bool.and_true, mc_tf, List.getD_cons_zero, List.getD_cons_succ, Int.reduceToNat, Int.reduceAdd, Int.reduceSub, Int.reduceMul, Int.reduceNeg, Int.reduceLT, Int.reduceLE, Int.reduceEq, not_true_eq_false, not_false_eq_true, decide_true, decide_false]) <;> omega))
      | ((with_reducible apply GoP.k4); exact rfl; exact rfl; exact rfl; try dsimp only [Option.toList, List.cons_append, List.nil_append])
      | ((with_reducible apply GoP.k5); exact rfl; exact rfl)
      | ((with_reducible apply GoA.sw); all_goals (intro h; (try simp (disch := omega) only [jJ_lit, jJ_add, jJ_mul, iI_long, jJ_toI, l_lt, l_ge, l_gt, l_le, l_eq, l_ne, jJ_inj, k_ule, k_uln, iI_lit, iI_nat, iI_neg, iI_add, iI_sub, iI_mul, k_lt, k_ge, k_gt, k_le, k_eq, k_ne, k_cl, k_in, iI_inj, k_upe, k_upn, k_wue, k_wun, sI_1, sI_2, sI_3, sI_4, sJ_1, sJ_2, sJ_3, sJ_4, sA_1, sA_2, sA_3, sA_4, sB_1, sB_2, sB_3, sB_4, decide_eq_true_eq, decide_eq_false_iff_not, reduceCtorEq, Int.toNat_natCast, Bool.and_true, mc_tf, List.getD_cons_zero, List.getD_cons_succ, Int.reduceToNat, Int.reduceAdd, Int.reduceSub, Int.reduceMul, Int.reduceNeg, Int.reduceLT, Int.reduceLE, Int.reduceEq, not_true_eq_false, not_false_eq_true, decide_true, decide_false] at h); (try (exfalso; omega))))
      | ((with_reducible apply GoA.sw0))
      | ((with_reducible apply GoA.c); all_goals (intro h; (try simp (disch := omega) only [jJ_lit, jJ_add, jJ_mul, iI_long, jJ_toI, l_lt, l_ge, l_gt, l_le, l_eq, l_ne, jJ_inj, k_ule, k_uln, iI_lit, iI_nat, iI_neg, iI_add, iI_sub, iI_mul, k_lt, k_ge, k_gt, k_le, k_eq, k_ne, k_cl, k_in, iI_inj, k_upe, k_upn, k_wue, k_wun, sI_1, sI_2, sI_3, sI_4, sJ_1, sJ_2, sJ_3, sJ_4, sA_1, sA_2, sA_3, sA_4, sB_1, sB_2, sB_3, sB_4, decide_eq_true_eq, decide_eq_false_iff_not, reduceCtorEq, Int.toNat_natCast, Bool.and_true, mc_tf, List.getD_cons_zero, List.getD_cons_succ, Int.reduceToNat, Int.reduceAdd, Int.reduceSub, Int.reduceMul, Int.reduceNeg, Int.reduceLT, Int.reduceLE, Int.reduceEq, not_true_eq_false, not_false_eq_true, decide_true, decide_false] at h); (try (exfalso; omega))))
    have ed : (iI (d : Int)).toNatClampNeg = d := by
      rw [k_cl (by omega)]
      omega
    have ec : ∀ k : Nat, k < 100 → (iI (k : Int) + iI (d : Int)).toNatClampNeg = k + d := by
      intro k hk
      rw [iI_add, k_cl (by omega)]
      omega
    have e9 : (9 + iI (d : Int)).toNatClampNeg = 9 + d := ec 9 (by decide)
    have e18 : (18 + iI (d : Int)).toNatClampNeg = 18 + d := ec 18 (by decide)
    have e27 : (27 + iI (d : Int)).toNatClampNeg = 27 + d := ec 27 (by decide)
    obtain ⟨μ1, hμ1⟩ : ∃ μ1, μ1 = sA (sA (sA (sA μ 29 (upd (μ.2.2.1 29) d (μ.2.2.1 25 d))) 29 (upd (upd (μ.2.2.1 29) d (μ.2.2.1 25 d)) (9 + d) (μ.2.2.1 26 d))) 29 (upd (upd (upd (μ.2.2.1 29) d (μ.2.2.1 25 d)) (9 + d) (μ.2.2.1 26 d)) (18 + d) (μ.2.2.1 27 d))) 29 (upd (upd (upd (upd (μ.2.2.1 29) d (μ.2.2.1 25 d)) (9 + d) (μ.2.2.1 26 d)) (18 + d) (μ.2.2.1 27 d)) (27 + d) (μ.2.2.1 1 (27 + d))) := ⟨_, rfl⟩
    have hF1 : Fr [45] [] [28, 29] [] μ0 μ1 := by
      rw [hμ1]
      exact (((hF.tr (Fr.sA (by decide))).tr (Fr.sA (by decide))).tr (Fr.sA (by decide))).tr (Fr.sA (by decide))
    have h45 : μ1.1 45 = μ.1 45 := by rw [hμ1]; rfl
    have r28 : μ1.2.2.1 28 = μ.2.2.1 28 := by rw [hμ1]; rfl
    have r29 : μ1.2.2.1 29 = upd (upd (upd (upd (μ.2.2.1 29) d (μ.2.2.1 25 d)) (9 + d) (μ.2.2.1 26 d)) (18 + d) (μ.2.2.1 27 d)) (27 + d) (μ.2.2.1 1 (27 + d)) := by rw [hμ1]; rfl
    have hl := ih (d + 1) μ1 (by omega) (fun j hj => by rw [r28]; exact h28 j hj) (fun j hj => ?_) hF1
    · rw [h45, hμ1] at hl
      rw [show iI (d : Int) + 1 = iI ((d + 1 : Nat) : Int) by rw [iI_lit, iI_add]; rfl, ed, e9, e18, e27]
      exact hl
    · rw [r29, ← hF.2.2.1 25 (by decide), ← hF.2.2.1 26 (by decide), ← hF.2.2.1 27 (by decide), ← hF.2.2.1 1 (by decide)]
      by_cases hjd : j = d
      · subst hjd
        simp (disch := omega) only [k_upe, k_upn]
        exact ⟨trivial, trivial, trivial, trivial⟩
      · simp (disch := omega) only [k_upn]
        rw [hF.2.2.1 25 (by decide), hF.2.2.1 26 (by decide), hF.2.2.1 27 (by decide), hF.2.2.1 1 (by decide)]
        exact h29 j (by omega)
set_option maxRecDepth 100000 in
set_option maxHeartbeats 4000000 in
theorem lm_im1 {D : Nat} {μ0 : wS} : ∀ (k d : Nat) (μ : wS), d + k = 5 → (∀ j, j < d → μ.2.2.1 28 j = μ0.2.2.1 24 j) → Fr [45] [] [28] [] μ0 μ → GoP D tb_X11_image (10, [some (.ref 0), some (.int (iI (d : Int)))], [], mkM μ, 0, 0) (fun R => ∃ μ', R = (some (.int (μ0.2.2.1 24 0)), mkM μ', 0, 0) ∧ μ'.1 45 = μ.1 45 ∧ (∀ j, j < 5 → μ'.2.2.1 28 j = μ0.2.2.1 24 j) ∧ imE μ0 μ' 9 ∧ Fr [45] [] [28, 29] [] μ0 μ') := by
  intro k
  induction k with
  | zero =>
    intro d μ hd h28 hF
    obtain rfl : d = 5 := by omega
    have hl := lm_im2 (D := D) (μ0 := μ0) 9 0 μ rfl h28 (fun j hj => by omega) (hF.up (by decide))
    repeat' first
      | ((with_reducible show GoP _ _ (35, _) _); refine Hold.of ?_)
      | ((with_reducible apply GoP.k0); exact rfl; exact rfl)
      | ((with_reducible apply GoP.k1); exact rfl; exact rfl; all_goals (intro h; (try simp (disch := omega) only [jJ_lit, jJ_add, jJ_mul, iI_long, jJ_toI, l_lt, l_ge, l_gt, l_le, l_eq, l_ne, jJ_inj, k_ule, k_uln, iI_lit, iI_nat, iI_neg, iI_add, iI_sub, iI_mul, k_lt, k_ge, k_gt, k_le, k_eq, k_ne, k_cl, k_in, iI_inj, k_upe, k_upn, k_wue, k_wun, sI_1, sI_2, sI_3, sI_4, sJ_1, sJ_2, sJ_3, sJ_4, sA_1, sA_2, sA_3, sA_4, sB_1, sB_2, sB_3, sB_4, decide_eq_true_eq, decide_eq_false_iff_not, reduceCtorEq, Int.toNat_natCast, Bool.and_true, mc_tf, List.getD_cons_zero, List.getD_cons_succ, Int.reduceToNat, Int.reduceAdd, Int.reduceSub, Int.reduceMul, Int.reduceNeg, Int.reduceLT, Int.reduceLE, Int.reduceEq, not_true_eq_false, not_false_eq_true, decide_true, decide_false] at h); (try (exfalso; omega))))
      | ((with_reducible apply GoP.k2); exact rfl; exact rfl; focus ((simp (disch := omega) only [jJ_lit, jJ_add, jJ_mul, iI_long, jJ_toI, l_lt, l_ge, l_gt, l_le, l_eq, l_ne, jJ_inj, k_ule, k_uln, iI_lit, iI_nat, iI_neg, iI_add, iI_sub, iI_mul, k_lt, k_ge, k_gt, k_le, k_eq, k_ne, k_cl, k_in, iI_inj, k_upe, k_upn, k_wue, k_wun, sI_1, sI_2, sI_3, sI_4, sJ_1, sJ_2, sJ_3, sJ_4, sA_1, sA_2, sA_3, sA_4, sB_1, sB_2, sB_3, sB_4, decide_eq_true_eq, decide_eq_false_iff_not, reduceCtorEq, Int.toNat_natCast, Bool.and_true, mc_tf, List.getD_cons_zero, List.getD_cons_succ, Int.reduceToNat, Int.reduceAdd, Int.reduceSub, Int.reduceMul, Int.reduceNeg, Int.reduceLT, Int.reduceLE, Int.reduceEq, not_true_eq_false, not_false_eq_true, decide_true, decide_false]) <;> omega))
      | ((with_reducible apply GoP.k4); exact rfl; exact rfl; exact rfl; try dsimp only [Option.toList, List.cons_append, List.nil_append])
      | ((with_reducible apply GoP.k5); exact rfl; exact rfl)
      | ((with_reducible apply GoA.sw); all_goals (intro h; (try simp (disch := omega) only [jJ_lit, jJ_add, jJ_mul, iI_long, jJ_toI, l_lt, l_ge, l_gt, l_le, l_eq, l_ne, jJ_inj, k_ule, k_uln, iI_lit, iI_nat, iI_neg, iI_add, iI_sub, iI_mul, k_lt, k_ge, k_gt, k_le, k_eq, k_ne, k_cl, k_in, iI_inj, k_upe, k_upn, k_wue, k_wun, sI_1, sI_2, sI_3, sI_4, sJ_1, sJ_2, sJ_3, sJ_4, sA_1, sA_2, sA_3, sA_4, sB_1, sB_2, sB_3, sB_4, decide_eq_true_eq, decide_eq_false_iff_not, reduceCtorEq, Int.toNat_natCast, Bool.and_true, mc_tf, List.getD_cons_zero, List.getD_cons_succ, Int.reduceToNat, Int.reduceAdd, Int.reduceSub, Int.reduceMul, Int.reduceNeg, Int.reduceLT, Int.reduceLE, Int.reduceEq, not_true_eq_false, not_false_eq_true, decide_true, decide_false] at h); (try (exfalso; omega))))
      | ((with_reducible apply GoA.sw0))
      | ((with_reducible apply GoA.c); all_goals (intro h; (try simp (disch := omega) only [jJ_lit, jJ_add, jJ_mul, iI_long, jJ_toI, l_lt, l_ge, l_gt, l_le, l_eq, l_ne, jJ_inj, k_ule, k_uln, iI_lit, iI_nat, iI_neg, iI_add, iI_sub, iI_mul, k_lt, k_ge, k_gt, k_le, k_eq, k_ne, k_cl, k_in, iI_inj, k_upe, k_upn, k_wue, k_wun, sI_1, sI_2, sI_3, sI_4, sJ_1, sJ_2, sJ_3, sJ_4, sA_1, sA_2, sA_3, sA_4, sB_1, sB_2, sB_3, sB_4, decide_eq_true_eq, decide_eq_false_iff_not, reduceCtorEq, Int.toNat_natCast, Bool.and_true, mc_tf, List.getD_cons_zero, List.getD_cons_succ, Int.reduceToNat, Int.reduceAdd, Int.reduceSub, Int.reduceMul, Int.reduceNeg, Int.reduceLT, Int.reduceLE, Int.reduceEq, not_true_eq_false, not_false_eq_true, decide_true, decide_false] at h); (try (exfalso; omega))))
    exact hl
  | succ k ih =>
    intro d μ hd h28 hF
    refine GoP.st1 rfl ?_
    repeat' first
      | ((with_reducible show GoP _ _ (10, _) _); refine Hold.of ?_)
      | ((with_reducible apply GoP.k0); exact rfl; exact rfl)
      | ((with_reducible apply GoP.k1); exact rfl; exact rfl; all_goals (intro h; (try simp (disch := omega) only [jJ_lit, jJ_add, jJ_mul, iI_long, jJ_toI, l_lt, l_ge, l_gt, l_le, l_eq, l_ne, jJ_inj, k_ule, k_uln, iI_lit, iI_nat, iI_neg, iI_add, iI_sub, iI_mul, k_lt, k_ge, k_gt, k_le, k_eq, k_ne, k_cl, k_in, iI_inj, k_upe, k_upn, k_wue, k_wun, sI_1, sI_2, sI_3, sI_4, sJ_1, sJ_2, sJ_3, sJ_4, sA_1, sA_2, sA_3, sA_4, sB_1, sB_2, sB_3, sB_4, decide_eq_true_eq, decide_eq_false_iff_not, reduceCtorEq, Int.toNat_natCast, Bool.and_true, mc_tf, List.getD_cons_zero, List.getD_cons_succ, Int.reduceToNat, Int.reduceAdd, Int.reduceSub, Int.reduceMul, Int.reduceNeg, Int.reduceLT, Int.reduceLE, Int.reduceEq, not_true_eq_false, not_false_eq_true, decide_true, decide_false] at h); (try (exfalso; omega))))
      | ((with_reducible apply GoP.k2); exact rfl; exact rfl; focus ((simp (disch := omega) only [jJ_lit, jJ_add, jJ_mul, iI_long, jJ_toI, l_lt, l_ge, l_gt, l_le, l_eq, l_ne, jJ_inj, k_ule, k_uln, iI_lit, iI_nat, iI_neg, iI_add, iI_sub, iI_mul, k_lt, k_ge, k_gt, k_le, k_eq, k_ne, k_cl, k_in, iI_inj, k_upe, k_upn, k_wue, k_wun, sI_1, sI_2, sI_3, sI_4, sJ_1, sJ_2, sJ_3, sJ_4, sA_1, sA_2, sA_3, sA_4, sB_1, sB_2, sB_3, sB_4, decide_eq_true_eq, decide_eq_false_iff_not, reduceCtorEq, Int.toNat_natCast, Bool.and_true, mc_tf, List.getD_cons_zero, List.getD_cons_succ, Int.reduceToNat, Int.reduceAdd, Int.reduceSub, Int.reduceMul, Int.reduceNeg, Int.reduceLT, Int.reduceLE, Int.reduceEq, not_true_eq_false, not_false_eq_true, decide_true, decide_false]) <;> omega))
      | ((with_reducible apply GoP.k4); exact rfl; exact rfl; exact rfl; try dsimp only [Option.toList, List.cons_append, List.nil_append])
      | ((with_reducible apply GoP.k5); exact rfl; exact rfl)
      | ((with_reducible apply GoA.sw); all_goals (intro h; (try simp (disch := omega) only [jJ_lit, jJ_add, jJ_mul, iI_long, jJ_toI, l_lt, l_ge, l_gt, l_le, l_eq, l_ne, jJ_inj, k_ule, k_uln, iI_lit, iI_nat, iI_neg, iI_add, iI_sub, iI_mul, k_lt, k_ge, k_gt, k_le, k_eq, k_ne, k_cl, k_in, iI_inj, k_upe, k_upn, k_wue, k_wun, sI_1, sI_2, sI_3, sI_4, sJ_1, sJ_2, sJ_3, sJ_4, sA_1, sA_2, sA_3, sA_4, sB_1, sB_2, sB_3, sB_4, decide_eq_true_eq, decide_eq_false_iff_not, reduceCtorEq, Int.toNat_natCast, Bool.and_true, mc_tf, List.getD_cons_zero, List.getD_cons_succ, Int.reduceToNat, Int.reduceAdd, Int.reduceSub, Int.reduceMul, Int.reduceNeg, Int.reduceLT, Int.reduceLE, Int.reduceEq, not_true_eq_false, not_false_eq_true, decide_true, decide_false] at h); (try (exfalso; omega))))
      | ((with_reducible apply GoA.sw0))
      | ((with_reducible apply GoA.c); all_goals (intro h; (try simp (disch := omega) only [jJ_lit, jJ_add, jJ_mul, iI_long, jJ_toI, l_lt, l_ge, l_gt, l_le, l_eq, l_ne, jJ_inj, k_ule, k_uln, iI_lit, iI_nat, iI_neg, iI_add, iI_sub, iI_mul, k_lt, k_ge, k_gt, k_le, k_eq, k_ne, k_cl, k_in, iI_inj, k_upe, k_upn, k_wue, k_wun, sI_1, sI_2, sI_3, sI_4, sJ_1, sJ_2, sJ_3, sJ_4, sA_1, sA_2, sA_3, sA_4, sB_1, sB_2, sB_3, sB_4, decide_eq_true_eq, decide_eq_false_iff_not, reduceCtorEq, Int.toNat_natCast, Bool.and_true, mc_tf, List.getD_cons_zero, List.getD_cons_succ, Int.reduceToNat, Int.reduceAdd, Int.reduceSub, Int.reduceMul, Int.reduceNeg, Int.reduceLT, Int.reduceLE, Int.reduceEq, not_true_eq_false, not_false_eq_true, decide_true, decide_false] at h); (try (exfalso; omega))))
    have ed : (iI (d : Int)).toNatClampNeg = d := by
      rw [k_cl (by omega)]
      omega
    rw [show iI (d : Int) + 1 = iI ((d + 1 : Nat) : Int) by rw [iI_lit, iI_add]; rfl, ed]
    refine ih (d + 1) (sA μ 28 (upd (μ.2.2.1 28) d (μ.2.2.1 24 d))) (by omega) (fun j hj => ?_) (hF.tr (Fr.sA (by decide)))
    show upd (μ.2.2.1 28) d (μ.2.2.1 24 d) j = μ0.2.2.1 24 j
    by_cases hjd : j = d
    · rw [k_upe hjd, hF.2.2.1 24 (by decide), hjd]
    · rw [k_upn hjd]
      exact h28 j (by omega)
abbrev imI : List Nat := [10, 5200, 5201, 5202, 5203, 5204, 5205, 5206, 5207, 5208, 5209, 5210, 5212]
set_option maxRecDepth 100000 in
set_option maxHeartbeats 4000000 in
theorem pr_image (hT : TOk T) (hX : TX T σ) (hM : TM T μ) (hI : I_D (tN T) σ μ) : pS 142 246 [] w M σ μ (fun σ' μ' => I_I (tN T) σ' μ' ∧ Fr imI [] [53] [] σ σ' ∧ Fr [45] [] [28, 29] [] μ μ') := by
  have hn9 := hT.1
  have h102 := hX.1
  have e0 : σ.1 5000 = μ.2.2.1 24 0 := by
    obtain ⟨a, u, g, r, g1, ⟨g2, g3⟩, -⟩ := hI
    exact g2.trans g3.symm
  refine pS_of (v := .int (σ.1 5000)) (P1 := fun σ' => (∀ k, k < 11 → σ'.1 (5200 + k) = σ.1 (5000 + k)) ∧ σ'.1 10 = 1 ∧ σ'.1 5212 = iI (tN T : Int) ∧ (∀ j, j < tN T → σ'.2.2.1 53 j = σ.2.2.1 6 j) ∧ Fr imI [] [53] [] σ σ') (P2 := fun μ' => μ'.1 45 = μ.1 1 ∧ (∀ j, j < 5 → μ'.2.2.1 28 j = μ.2.2.1 24 j) ∧ imE μ μ' 9 ∧ Fr [45] [] [28, 29] [] μ μ') ?_ ?_ (fun σ' μ' h1 h2 => ?_)
  · have hc : (decide (¬ (0 : Int32) < 0 ∧ ¬ (0 : Int32) < 0 ∧ ¬ σ.1 102 < 0 ∧ (0 : Int32).toNatClampNeg + (σ.1 102).toNatClampNeg ≤ 9 ∧ (0 : Int32).toNatClampNeg + (σ.1 102).toNatClampNeg ≤ 9) && Nat.ble (mc_w []) 8) = true := by
      rw [h102, show (0 : Int32).toNatClampNeg = 0 by decide, k_cl (by omega), show Nat.ble (mc_w []) 8 = true by decide, Bool.and_true]
      refine decide_eq_true ⟨by decide, by decide, ?_, by omega, by omega⟩
      rw [iI_lit, iI_ltp (by omega)]
      omega
    have en : (σ.1 102).toNatClampNeg = tN T := by
      rw [h102, k_cl (by omega)]
      omega
    refine EvP.kof (T := tb_X10_image) rfl rfl ?_
    dsimp only [mc_pad, mc_exp]
    repeat' first
      | ((with_reducible apply GoP.k2); exact rfl; exact rfl; exact hc)
      | ((with_reducible apply GoP.k0); exact rfl; exact rfl)
      | ((with_reducible apply GoP.k1); exact rfl; exact rfl; all_goals (intro h; (try simp (disch := omega) only [jJ_lit, jJ_add, jJ_mul, iI_long, jJ_toI, l_lt, l_ge, l_gt, l_le, l_eq, l_ne, jJ_inj, k_ule, k_uln, iI_lit, iI_nat, iI_neg, iI_add, iI_sub, iI_mul, k_lt, k_ge, k_gt, k_le, k_eq, k_ne, k_cl, k_in, iI_inj, k_upe, k_upn, k_wue, k_wun, sI_1, sI_2, sI_3, sI_4, sJ_1, sJ_2, sJ_3, sJ_4, sA_1, sA_2, sA_3, sA_4, sB_1, sB_2, sB_3, sB_4, decide_eq_true_eq, decide_eq_false_iff_not, reduceCtorEq, Int.toNat_natCast, Bool.and_true, mc_tf, List.getD_cons_zero, List.getD_cons_succ, Int.reduceToNat, Int.reduceAdd, Int.reduceSub, Int.reduceMul, Int.reduceNeg, Int.reduceLT, Int.reduceLE, Int.reduceEq, not_true_eq_false, not_false_eq_true, decide_true, decide_false] at h); (try (exfalso; omega))))
      | ((with_reducible apply GoP.k2); exact rfl; exact rfl; focus ((simp (disch := omega) only [jJ_lit, jJ_add, jJ_mul, iI_long, jJ_toI, l_lt, l_ge, l_gt, l_le, l_eq, l_ne, jJ_inj, k_ule, k_uln, iI_lit, iI_nat, iI_neg, iI_add, iI_sub, iI_mul, k_lt, k_ge, k_gt, k_le, k_eq, k_ne, k_cl, k_in, iI_inj, k_upe, k_upn, k_wue, k_wun, sI_1, sI_2, sI_3, sI_4, sJ_1, sJ_2, sJ_3, sJ_4, sA_1, sA_2, sA_3, sA_4, sB_1, sB_2, sB_3, sB_4, decide_eq_true_eq, decide_eq_false_iff_not, reduceCtorEq, Int.toNat_natCast, Bool.and_true, mc_tf, List.getD_cons_zero, List.getD_cons_succ, Int.reduceToNat, Int.reduceAdd, Int.reduceSub, Int.reduceMul, Int.reduceNeg, Int.reduceLT, Int.reduceLE, Int.reduceEq, not_true_eq_false, not_false_eq_true, decide_true, decide_false]) <;> omega))
      | ((with_reducible apply GoP.k3); exact rfl; exact rfl; exact rfl; exact rfl; dsimp only [mc_pad, mc_exp])
      | ((with_reducible apply GoP.k4); exact rfl; exact rfl; exact rfl; try dsimp only [Option.toList, List.cons_append, List.nil_append])
      | ((with_reducible apply GoP.k5); exact rfl; exact rfl)
      | ((with_reducible apply GoA.sw); all_goals (intro h; (try simp (disch := omega) only [jJ_lit, jJ_add, jJ_mul, iI_long, jJ_toI, l_lt, l_ge, l_gt, l_le, l_eq, l_ne, jJ_inj, k_ule, k_uln, iI_lit, iI_nat, iI_neg, iI_add, iI_sub, iI_mul, k_lt, k_ge, k_gt, k_le, k_eq, k_ne, k_cl, k_in, iI_inj, k_upe, k_upn, k_wue, k_wun, sI_1, sI_2, sI_3, sI_4, sJ_1, sJ_2, sJ_3, sJ_4, sA_1, sA_2, sA_3, sA_4, sB_1, sB_2, sB_3, sB_4, decide_eq_true_eq, decide_eq_false_iff_not, reduceCtorEq, Int.toNat_natCast, Bool.and_true, mc_tf, List.getD_cons_zero, List.getD_cons_succ, Int.reduceToNat, Int.reduceAdd, Int.reduceSub, Int.reduceMul, Int.reduceNeg, Int.reduceLT, Int.reduceLE, Int.reduceEq, not_true_eq_false, not_false_eq_true, decide_true, decide_false] at h); (try (exfalso; omega))))
      | ((with_reducible apply GoA.sw0))
      | ((with_reducible apply GoA.c); all_goals (intro h; (try simp (disch := omega) only [jJ_lit, jJ_add, jJ_mul, iI_long, jJ_toI, l_lt, l_ge, l_gt, l_le, l_eq, l_ne, jJ_inj, k_ule, k_uln, iI_lit, iI_nat, iI_neg, iI_add, iI_sub, iI_mul, k_lt, k_ge, k_gt, k_le, k_eq, k_ne, k_cl, k_in, iI_inj, k_upe, k_upn, k_wue, k_wun, sI_1, sI_2, sI_3, sI_4, sJ_1, sJ_2, sJ_3, sJ_4, sA_1, sA_2, sA_3, sA_4, sB_1, sB_2, sB_3, sB_4, decide_eq_true_eq, decide_eq_false_iff_not, reduceCtorEq, Int.toNat_natCast, Bool.and_true, mc_tf, List.getD_cons_zero, List.getD_cons_succ, Int.reduceToNat, Int.reduceAdd, Int.reduceSub, Int.reduceMul, Int.reduceNeg, Int.reduceLT, Int.reduceLE, Int.reduceEq, not_true_eq_false, not_false_eq_true, decide_true, decide_false] at h); (try (exfalso; omega))))
      | ((with_reducible apply EvP.kof); exact rfl; exact rfl; dsimp only [mc_pad, mc_exp])
    refine ⟨sI (sA (sI (sI (sI (sI (sI (sI (sI (sI (sI (sI (sI (sI σ 5200 (σ.1 5000)) 5201 (σ.1 5001)) 5202 (σ.1 5002)) 5203 (σ.1 5003)) 5204 (σ.1 5004)) 5205 (σ.1 5005)) 5206 (σ.1 5006)) 5207 (σ.1 5007)) 5208 (σ.1 5008)) 5209 (σ.1 5009)) 5210 (σ.1 5010)) 5212 (σ.1 102)) 53 (va_cpy (σ.2.2.1 6) (σ.2.2.1 53) (0 : Int32).toNatClampNeg (0 : Int32).toNatClampNeg (σ.1 102).toNatClampNeg)) 10 1, rfl, ?_, rfl, h102, ?_, ?_⟩
    · intro k hk
      have hk : k = 0 ∨ k = 1 ∨ k = 2 ∨ k = 3 ∨ k = 4 ∨ k = 5 ∨ k = 6 ∨ k = 7 ∨ k = 8 ∨ k = 9 ∨ k = 10 := by omega
      rcases hk with rfl | rfl | rfl | rfl | rfl | rfl | rfl | rfl | rfl | rfl | rfl <;> rfl
    · intro j hj
      show va_cpy (σ.2.2.1 6) (σ.2.2.1 53) (0 : Int32).toNatClampNeg (0 : Int32).toNatClampNeg (σ.1 102).toNatClampNeg j = σ.2.2.1 6 j
      rw [show (0 : Int32).toNatClampNeg = 0 by decide, en]
      exact cpy_at hj
    · exact (((((((((((((Fr.sI (by decide)).tr (Fr.sI (by decide))).tr (Fr.sI (by decide))).tr (Fr.sI (by decide))).tr (Fr.sI (by decide))).tr (Fr.sI (by decide))).tr (Fr.sI (by decide))).tr (Fr.sI (by decide))).tr (Fr.sI (by decide))).tr (Fr.sI (by decide))).tr (Fr.sI (by decide))).tr (Fr.sI (by decide))).tr (Fr.sA (by decide))).tr (Fr.sI (by decide))
  · have hl := lm_im1 (D := 59) (μ0 := μ) 5 0 (sI μ 45 (μ.1 1)) rfl (fun j hj => by omega) (Fr.sI (by decide))
    refine EvP.kof (T := tb_X11_image) rfl rfl ?_
    dsimp only [mc_pad, mc_exp]
    repeat' first
      | ((with_reducible show GoP _ _ (10, _) _); refine Hold.of ?_)
      | ((with_reducible apply GoP.k0); exact rfl; exact rfl)
      | ((with_reducible apply GoP.k1); exact rfl; exact rfl; all_goals (intro h; (try simp (disch := omega) only [jJ_lit, jJ_add, jJ_mul, iI_long, jJ_toI, l_lt, l_ge, l_gt, l_le, l_eq, l_ne, jJ_inj, k_ule, k_uln, iI_lit, iI_nat, iI_neg, iI_add, iI_sub, iI_mul, k_lt, k_ge, k_gt, k_le, k_eq, k_ne, k_cl, k_in, iI_inj, k_upe, k_upn, k_wue, k_wun, sI_1, sI_2, sI_3, sI_4, sJ_1, sJ_2, sJ_3, sJ_4, sA_1, sA_2, sA_3, sA_4, sB_1, sB_2, sB_3, sB_4, decide_eq_true_eq, decide_eq_false_iff_not, reduceCtorEq, Int.toNat_natCast, Bool.and_true, mc_tf, List.getD_cons_zero, List.getD_cons_succ, Int.reduceToNat, Int.reduceAdd, Int.reduceSub, Int.reduceMul, Int.reduceNeg, Int.reduceLT, Int.reduceLE, Int.reduceEq, not_true_eq_false, not_false_eq_true, decide_true, decide_false] at h); (try (exfalso; omega))))
      | ((with_reducible apply GoP.k2); exact rfl; exact rfl; focus ((simp (disch := omega) only [jJ_lit, jJ_add, jJ_mul, iI_long, jJ_toI, l_lt, l_ge, l_gt, l_le, l_eq, l_ne, jJ_inj, k_ule, k_uln, iI_lit, iI_nat, iI_neg, iI_add, iI_sub, iI_mul, k_lt, k_ge, k_gt, k_le, k_eq, k_ne, k_cl, k_in, iI_inj, k_upe, k_upn, k_wue, k_wun, sI_1, sI_2, sI_3, sI_4, sJ_1, sJ_2, sJ_3, sJ_4, sA_1, sA_2, sA_3, sA_4, sB_1, sB_2, sB_3, sB_4, decide_eq_true_eq, decide_eq_false_iff_not, reduceCtorEq, Int.toNat_natCast, Bool.and_true, mc_tf, List.getD_cons_zero, List.getD_cons_succ, Int.reduceToNat, Int.reduceAdd, Int.reduceSub, Int.reduceMul, Int.reduceNeg, Int.reduceLT, Int.reduceLE, Int.reduceEq, not_true_eq_false, not_false_eq_true, decide_true, decide_false]) <;> omega))
      | ((with_reducible apply GoP.k4); exact rfl; exact rfl; exact rfl; try dsimp only [Option.toList, List.cons_append, List.nil_append])
      | ((with_reducible apply GoP.k5); exact rfl; exact rfl)
      | ((with_reducible apply GoA.sw); all_goals (intro h; (try simp (disch := omega) only [jJ_lit, jJ_add, jJ_mul, iI_long, jJ_toI, l_lt, l_ge, l_gt, l_le, l_eq, l_ne, jJ_inj, k_ule, k_uln, iI_lit, iI_nat, iI_neg, iI_add, iI_sub, iI_mul, k_lt, k_ge, k_gt, k_le, k_eq, k_ne, k_cl, k_in, iI_inj, k_upe, k_upn, k_wue, k_wun, sI_1, sI_2, sI_3, sI_4, sJ_1, sJ_2, sJ_3, sJ_4, sA_1, sA_2, sA_3, sA_4, sB_1, sB_2, sB_3, sB_4, decide_eq_true_eq, decide_eq_false_iff_not, reduceCtorEq, Int.toNat_natCast, Bool.and_true, mc_tf, List.getD_cons_zero, List.getD_cons_succ, Int.reduceToNat, Int.reduceAdd, Int.reduceSub, Int.reduceMul, Int.reduceNeg, Int.reduceLT, Int.reduceLE, Int.reduceEq, not_true_eq_false, not_false_eq_true, decide_true, decide_false] at h); (try (exfalso; omega))))
      | ((with_reducible apply GoA.sw0))
      | ((with_reducible apply GoA.c); all_goals (intro h; (try simp (disch := omega) only [jJ_lit, jJ_add, jJ_mul, iI_long, jJ_toI, l_lt, l_ge, l_gt, l_le, l_eq, l_ne, jJ_inj, k_ule, k_uln, iI_lit, iI_nat, iI_neg, iI_add, iI_sub, iI_mul, k_lt, k_ge, k_gt, k_le, k_eq, k_ne, k_cl, k_in, iI_inj, k_upe, k_upn, k_wue, k_wun, sI_1, sI_2, sI_3, sI_4, sJ_1, sJ_2, sJ_3, sJ_4, sA_1, sA_2, sA_3, sA_4, sB_1, sB_2, sB_3, sB_4, decide_eq_true_eq, decide_eq_false_iff_not, reduceCtorEq, Int.toNat_natCast, Bool.and_true, mc_tf, List.getD_cons_zero, List.getD_cons_succ, Int.reduceToNat, Int.reduceAdd, Int.reduceSub, Int.reduceMul, Int.reduceNeg, Int.reduceLT, Int.reduceLE, Int.reduceEq, not_true_eq_false, not_false_eq_true, decide_true, decide_false] at h); (try (exfalso; omega))))
    refine GoP.mono hl ?_
    rintro R ⟨μ', rfl, b1, b2, b3, b4⟩
    exact ⟨μ', R_int e0.symm rfl, b1, b2, b3, b4⟩
  · obtain ⟨a1, a2, a3, a4, aF⟩ := h1
    obtain ⟨b1, b2, b3, bF⟩ := h2
    refine ⟨Or.inr ⟨a2, tN T, fun j => tV T 3 j, Nat.le_refl _, a3, b1.trans hM.1, hI.eq a1 b2 (fun j hj => (b3 j hj).1) (fun j hj => (b3 j hj).2.1) (fun j hj => (b3 j hj).2.2.1), fun j hj => ⟨(a4 j hj).trans (hX.2.2.1 j hj).2.2.2.1, ?_, (hT.2.2.1 j hj).2.2.2.1⟩⟩, aF, bF⟩
    exact (b3 j (by omega)).2.2.2.trans (hM.2.2.1 j hj).2.2.2.1
end
