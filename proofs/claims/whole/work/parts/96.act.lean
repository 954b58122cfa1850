section
variable {w : Bool} {T : tT} {M : kM} {σ μ : wS}
set_option maxRecDepth 100000 in
set_option maxHeartbeats 8000000 in
theorem pr_act (a b x : Int32) (hB : I_B σ μ) : pS 147 265 [.int a, .int b, .int x] w M σ μ (fun σ' μ' => I_B σ' μ' ∧ Fr [5403, 5404] [] [56] [] σ σ' ∧ Fr [50] [] [31] [] μ μ') := by
  obtain ⟨z, hz1, hz2, rfl⟩ := iI_ex a
  obtain ⟨y, hy1, hy2, rfl⟩ := iI_ex b
  obtain ⟨⟨nb, hnb, e1, e2, hkd⟩, htr⟩ := hB
  have fin : ∀ L, L ≤ 1000 → ∀ as, pS 147 265 as w M σ μ (Qa L σ μ) → pS 147 265 as w M σ μ (fun σ' μ' => I_B σ' μ' ∧ Fr [5403, 5404] [] [56] [] σ σ' ∧ Fr [50] [] [31] [] μ μ') := by
    intro L hL as h
    refine h.mono (fun RX hX => hX.mono (fun RM hM => ?_))
    obtain ⟨v, σ', μ', g1, g2, ⟨t1, t2, t3⟩, aF, bF⟩ := hM
    refine ⟨v, σ', μ', g1, g2, ⟨⟨nb, hnb, (aF.1 5402 (by decide)).trans e1, (bF.1 48 (by decide)).trans e2, ?_⟩, L, hL, t1, t2, fun j _ hj => t3 j hj⟩, aF, bF⟩
    rw [aF.2.2.1 55 (by decide), bF.2.2.1 30 (by decide)]
    exact hkd
  have e1 : σ.1 5402 = iI (nb : Int) := e1.trans (iI_nat nb)
  have e2 : μ.1 48 = iI (nb : Int) := e2.trans (iI_nat nb)
  by_cases hv : (0 ≤ z ∧ z < nb) ∧ 0 ≤ y ∧ y < 4
  · obtain ⟨n, rfl⟩ := Int.eq_ofNat_of_zero_le hv.1.1
    have hb : n < nb := by omega
    obtain ⟨k, hk, k1, k2⟩ := hkd n hb
    rw [iI_nat] at k1 k2
    have hw : k = 0 ∨ k = 1 ∨ k = 2 ∨ k = 3 ∨ k = 4 ∨ k = 5 ∨ k = 6 ∨ k = 7 := by omega
    have hy : y = 0 ∨ y = 1 ∨ y = 2 ∨ y = 3 := by omega
    rcases hw with rfl | rfl | rfl | rfl | rfl | rfl | rfl | rfl
    · rcases hy with rfl | rfl | rfl | rfl
      · exact fin _ (by decide) _ (pr_act_0_0 x hb hnb e1 e2 k1 k2)
      · exact fin _ (by decide) _ (pr_act_0_1 x hb hnb e1 e2 k1 k2)
      · exact fin _ (by decide) _ (pr_act_0_2 x hb hnb e1 e2 k1 k2)
      · exact fin _ (by decide) _ (pr_act_0_3 x hb hnb e1 e2 k1 k2)
    · rcases hy with rfl | rfl | rfl | rfl
      · exact fin _ (by decide) _ (pr_act_1_0 x hb hnb e1 e2 k1 k2)
      · exact fin _ (by decide) _ (pr_act_1_1 x hb hnb e1 e2 k1 k2)
      · exact fin _ (by decide) _ (pr_act_1_2 x hb hnb e1 e2 k1 k2)
      · exact fin _ (by decide) _ (pr_act_1_3 x hb hnb e1 e2 k1 k2)
    · rcases hy with rfl | rfl | rfl | rfl
      · exact fin _ (by decide) _ (pr_act_2_0 x hb hnb e1 e2 k1 k2)
      · exact fin _ (by decide) _ (pr_act_2_1 x hb hnb e1 e2 k1 k2)
      · exact fin _ (by decide) _ (pr_act_2_2 x hb hnb e1 e2 k1 k2)
      · exact fin _ (by decide) _ (pr_act_2_3 x hb hnb e1 e2 k1 k2)
    · rcases hy with rfl | rfl | rfl | rfl
      · exact fin _ (by decide) _ (pr_act_3_0 x hb hnb e1 e2 k1 k2)
      · exact fin _ (by decide) _ (pr_act_3_1 x hb hnb e1 e2 k1 k2)
      · exact fin _ (by decide) _ (pr_act_3_2 x hb hnb e1 e2 k1 k2)
      · exact fin _ (by decide) _ (pr_act_3_3 x hb hnb e1 e2 k1 k2)
    · rcases hy with rfl | rfl | rfl | rfl
      · exact fin _ (by decide) _ (pr_act_4_0 x hb hnb e1 e2 k1 k2)
      · exact fin _ (by decide) _ (pr_act_4_1 x hb hnb e1 e2 k1 k2)
      · exact fin _ (by decide) _ (pr_act_4_2 x hb hnb e1 e2 k1 k2)
      · exact fin _ (by decide) _ (pr_act_4_3 x hb hnb e1 e2 k1 k2)
    · rcases hy with rfl | rfl | rfl | rfl
      · exact fin _ (by decide) _ (pr_act_5_0 x hb hnb e1 e2 k1 k2)
      · exact fin _ (by decide) _ (pr_act_5_1 x hb hnb e1 e2 k1 k2)
      · exact fin _ (by decide) _ (pr_act_5_2 x hb hnb e1 e2 k1 k2)
      · exact fin _ (by decide) _ (pr_act_5_3 x hb hnb e1 e2 k1 k2)
    · rcases hy with rfl | rfl | rfl | rfl
      · exact fin _ (by decide) _ (pr_act_6_0 x hb hnb e1 e2 k1 k2)
      · exact fin _ (by decide) _ (pr_act_6_1 x hb hnb e1 e2 k1 k2)
      · exact fin _ (by decide) _ (pr_act_6_2 x hb hnb e1 e2 k1 k2)
      · exact fin _ (by decide) _ (pr_act_6_3 x hb hnb e1 e2 k1 k2)
    · rcases hy with rfl | rfl | rfl | rfl
      · exact fin _ (by decide) _ (pr_act_7_0 x hb hnb e1 e2 k1 k2)
      · exact fin _ (by decide) _ (pr_act_7_1 x hb hnb e1 e2 k1 k2)
      · exact fin _ (by decide) _ (pr_act_7_2 x hb hnb e1 e2 k1 k2)
      · exact fin _ (by decide) _ (pr_act_7_3 x hb hnb e1 e2 k1 k2)
  · refine fin 0 (by decide) _ (pS_of (v := .int 0) (P1 := fun σ' => σ' = sI σ 5403 0) (P2 := fun μ' => μ' = sI μ 50 0) ?_ ?_ (fun σ' μ' h1 h2 => ?_))
    · refine EvP.kof (T := tb_X10_act) rfl rfl ?_
      dsimp only [mc_pad, mc_exp]
      repeat' first
        | ((with_reducible apply GoP.k0); exact rfl; exact rfl)
        | ((with_reducible apply GoP.k1); exact rfl; exact rfl; all_goals (intro h; (try simp (disch := omega) only [jJ_lit, jJ_add, jJ_mul, iI_long, jJ_toI, l_lt, l_ge, l_gt, l_le, l_eq, l_ne, jJ_inj, k_ule, k_uln, iI_lit, iI_nat, iI_neg, iI_add, iI_sub, iI_mul, k_lt, k_ge, k_gt, k_le, k_eq, k_ne, k_cl, k_in, iI_inj, k_upe, k_upn, k_wue, k_wun, sI_1, sI_2, sI_3, sI_4, sJ_1, sJ_2, sJ_3, sJ_4, sA_1, sA_2, sA_3, sA_4, sB_1, sB_2, sB_3, sB_4, decide_eq_true_eq, decide_eq_false_iff_not, reduceCtorEq, Int.toNat_natCast, Bool.and_true, mc_tf, List.getD_cons_zero, List.getD_cons_succ, Int.reduceToNat, Int.reduceAdd, Int.reduceSub, Int.reduceMul, Int.reduceNeg, Int.reduceLT, Int.reduceLE, Int.reduceEq, not_true_eq_false, not_false_eq_true, decide_true, decide_false, e1] at h); (try (exfalso; omega))))
        | ((with_reducible apply GoP.k2); exact rfl; exact rfl; focus ((simp (disch := omega) only [jJ_lit, jJ_add, jJ_mul, iI_long, jJ_toI, l_lt, l_ge, l_gt, l_le, l_eq, l_ne, jJ_inj, k_ule, k_uln, iI_lit, iI_nat, iI_neg, iI_add, iI_sub, iI_mul, k_lt, k_ge, k_gt, k_le, k_eq, k_ne, k_cl, k_in, iI_inj, k_upe, k_upn, k_wue, k_wun, sI_1, sI_2, sI_3, sI_4, sJ_1, sJ_2, sJ_3, sJ_4, sA_1, sA_2, sA_3, sA_4, sB_1, sB_2, sB_3, sB_4, decide_eq_true_eq, decide_eq_false_iff_not, reduceCtorEq, Int.toNat_natCast, Bool.and_true, mc_tf, List.getD_cons_zero, List.getD_cons_succ, Int.reduceToNat, Int.reduceAdd, Int.reduceSub, Int.reduceMul, Int.reduceNeg, Int.reduceLT, Int.reduceLE, Int.reduceEq, not_true_eq_false, not_false_eq_true, decide_true, decide_false, e1]) <;> omega))
        | ((with_reducible apply GoP.k3); exact rfl; exact rfl; exact rfl; exact rfl; dsimp only [mc_pad, mc_exp])
        | ((with_reducible apply GoP.k4); exact rfl; exact rfl; exact rfl; try dsimp only [Option.toList, List.cons_append, List.nil_append])
        | ((with_reducible apply GoP.k5); exact rfl; exact rfl)
        | ((with_reducible apply GoA.sw); all_goals (intro h; (try simp (disch := omega) only [jJ_lit, jJ_add, jJ_mul, iI_long, jJ_toI, l_lt, l_ge, l_gt, l_le, l_eq, l_ne, jJ_inj, k_ule, k_uln, iI_lit, iI_nat, iI_neg, iI_add, iI_sub, iI_mul, k_lt, k_ge, k_gt, k_le, k_eq, k_ne, k_cl, k_in, iI_inj, k_upe, k_upn, k_wue, k_wun, sI_1, sI_2, sI_3, sI_4, sJ_1, sJ_2, sJ_3, sJ_4, sA_1, sA_2, sA_3, sA_4, sB_1, sB_2, sB_3, sB_4, decide_eq_true_eq, decide_eq_false_iff_not, reduceCtorEq, Int.toNat_natCast, Bool.and_true, mc_tf, List.getD_cons_zero, List.getD_cons_succ, Int.reduceToNat, Int.reduceAdd, Int.reduceSub, Int.reduceMul, Int.reduceNeg, Int.reduceLT, Int.reduceLE, Int.reduceEq, not_true_eq_false, not_false_eq_true, decide_true, decide_false, e1] at h); (try (exfalso; omega))))
        | ((with_reducible apply GoA.sw0))
        | ((with_reducible apply GoA.c); all_goals (intro h; (try simp (disch := omega) only [jJ_lit, jJ_add, jJ_mul, iI_long, jJ_toI, l_lt, l_ge, l_gt, l_le, l_eq, l_ne, jJ_inj, k_ule, k_uln, iI_lit, iI_nat, iI_neg, iI_add, iI_sub, iI_mul, k_lt, k_ge, k_gt, k_le, k_eq, k_ne, k_cl, k_in, iI_inj, k_upe, k_upn, k_wue, k_wun, sI_1, sI_2, sI_3, sI_4, sJ_1, sJ_2, sJ_3, sJ_4, sA_1, sA_2, sA_3, sA_4, sB_1, sB_2, sB_3, sB_4, decide_eq_true_eq, decide_eq_false_iff_not, reduceCtorEq, Int.toNat_natCast, Bool.and_true, mc_tf, List.getD_cons_zero, List.getD_cons_succ, Int.reduceToNat, Int.reduceAdd, Int.reduceSub, Int.reduceMul, Int.reduceNeg, Int.reduceLT, Int.reduceLE, Int.reduceEq, not_true_eq_false, not_false_eq_true, decide_true, decide_false, e1] at h); (try (exfalso; omega))))
        | ((with_reducible apply EvP.kof); exact rfl; exact rfl; dsimp only [mc_pad, mc_exp])
      all_goals exact ⟨_, rfl, rfl⟩
    · refine EvP.kof (T := tb_X11_act) rfl rfl ?_
      dsimp only [mc_pad, mc_exp]
      repeat' first
        | ((with_reducible apply GoP.k0); exact rfl; exact rfl)
        | ((with_reducible apply GoP.k1); exact rfl; exact rfl; all_goals (intro h; (try simp (disch := omega) only [jJ_lit, jJ_add, jJ_mul, iI_long, jJ_toI, l_lt, l_ge, l_gt, l_le, l_eq, l_ne, jJ_inj, k_ule, k_uln, iI_lit, iI_nat, iI_neg, iI_add, iI_sub, iI_mul, k_lt, k_ge, k_gt, k_le, k_eq, k_ne, k_cl, k_in, iI_inj, k_upe, k_upn, k_wue, k_wun, sI_1, sI_2, sI_3, sI_4, sJ_1, sJ_2, sJ_3, sJ_4, sA_1, sA_2, sA_3, sA_4, sB_1, sB_2, sB_3, sB_4, decide_eq_true_eq, decide_eq_false_iff_not, reduceCtorEq, Int.toNat_natCast, Bool.and_true, mc_tf, List.getD_cons_zero, List.getD_cons_succ, Int.reduceToNat, Int.reduceAdd, Int.reduceSub, Int.reduceMul, Int.reduceNeg, Int.reduceLT, Int.reduceLE, Int.reduceEq, not_true_eq_false, not_false_eq_true, decide_true, decide_false, e2] at h); (try (exfalso; omega))))
        | ((with_reducible apply GoP.k2); exact rfl; exact rfl; focus ((simp (disch := omega) only [jJ_lit, jJ_add, jJ_mul, iI_long, jJ_toI, l_lt, l_ge, l_gt, l_le, l_eq, l_ne, jJ_inj, k_ule, k_uln, iI_lit, iI_nat, iI_neg, iI_add, iI_sub, iI_mul, k_lt, k_ge, k_gt, k_le, k_eq, k_ne, k_cl, k_in, iI_inj, k_upe, k_upn, k_wue, k_wun, sI_1, sI_2, sI_3, sI_4, sJ_1, sJ_2, sJ_3, sJ_4, sA_1, sA_2, sA_3, sA_4, sB_1, sB_2, sB_3, sB_4, decide_eq_true_eq, decide_eq_false_iff_not, reduceCtorEq, Int.toNat_natCast, Bool.and_true, mc_tf, List.getD_cons_zero, List.getD_cons_succ, Int.reduceToNat, Int.reduceAdd, Int.reduceSub, Int.reduceMul, Int.reduceNeg, Int.reduceLT, Int.reduceLE, Int.reduceEq, not_true_eq_false, not_false_eq_true, decide_true, decide_false, e2]) <;> omega))
        | ((with_reducible apply GoP.k3); exact rfl; exact rfl; exact rfl; exact rfl; dsimp only [mc_pad, mc_exp])
        | ((with_reducible apply GoP.k4); exact rfl; exact rfl; exact rfl; try dsimp only [Option.toList, List.cons_append, List.nil_append])
        | ((with_reducible apply GoP.k5); exact rfl; exact rfl)
        | ((with_reducible apply GoA.sw); all_goals (intro h; (try simp (disch := omega) only [jJ_lit, jJ_add, jJ_mul, iI_long, jJ_toI, l_lt, l_ge, l_gt, l_le, l_eq, l_ne, jJ_inj, k_ule, k_uln, iI_lit, iI_nat, iI_neg, iI_add, iI_sub, iI_mul, k_lt, k_ge, k_gt, k_le, k_eq, k_ne, k_cl, k_in, iI_inj, k_upe, k_upn, k_wue, k_wun, sI_1, sI_2, sI_3, sI_4, sJ_1, sJ_2, sJ_3, sJ_4, sA_1, sA_2, sA_3, sA_4, sB_1, sB_2, sB_3, sB_4, decide_eq_true_eq, decide_eq_false_iff_not, reduceCtorEq, Int.toNat_natCast, Bool.and_true, mc_tf, List.getD_cons_zero, List.getD_cons_succ, Int.reduceToNat, Int.reduceAdd, Int.reduceSub, Int.reduceMul, Int.reduceNeg, Int.reduceLT, Int.reduceLE, Int.reduceEq, not_true_eq_false, not_false_eq_true, decide_true, decide_false, e2] at h); (try (exfalso; omega))))
        | ((with_reducible apply GoA.sw0))
        | ((with_reducible apply GoA.c); all_goals (intro h; (try simp (disch := omega) only [jJ_lit, jJ_add, jJ_mul, iI_long, jJ_toI, l_lt, l_ge, l_gt, l_le, l_eq, l_ne, jJ_inj, k_ule, k_uln, iI_lit, iI_nat, iI_neg, iI_add, iI_sub, iI_mul, k_lt, k_ge, k_gt, k_le, k_eq, k_ne, k_cl, k_in, iI_inj, k_upe, k_upn, k_wue, k_wun, sI_1, sI_2, sI_3, sI_4, sJ_1, sJ_2, sJ_3, sJ_4, sA_1, sA_2, sA_3, sA_4, sB_1, sB_2, sB_3, sB_4, decide_eq_true_eq, decide_eq_false_iff_not, reduceCtorEq, Int.toNat_natCast, Bool.and_true, mc_tf, List.getD_cons_zero, List.getD_cons_succ, Int.reduceToNat, Int.reduceAdd, Int.reduceSub, Int.reduceMul, Int.reduceNeg, Int.reduceLT, Int.reduceLE, Int.reduceEq, not_true_eq_false, not_false_eq_true, decide_true, decide_false, e2] at h); (try (exfalso; omega))))
        | ((with_reducible apply EvP.kof); exact rfl; exact rfl; dsimp only [mc_pad, mc_exp])
      all_goals exact ⟨_, rfl, rfl⟩
    · subst h1
      subst h2
      exact ⟨⟨rfl, rfl, fun j hj => by omega⟩, Fr.sI (by decide), Fr.sI (by decide)⟩
end
