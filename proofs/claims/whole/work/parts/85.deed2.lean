/-! A number of a dish becomes another; on to the next dish; the image. -/
def svT (T : tT) (what d v : Nat) : tT := (T.1, T.2.1, fun x i => if x = what ∧ i = d then v else T.2.2.1 x i, T.2.2.2)
theorem svT_e (T : tT) (what d v : Nat) : tV (svT T what d v) what d = v := if_pos ⟨rfl, rfl⟩
theorem svT_n (T : tT) (what d v : Nat) {x i : Nat} (h : ¬ (x = what ∧ i = d)) : tV (svT T what d v) x i = tV T x i := if_neg h
theorem svT_3 {T : tT} (hT : TOk T) {d v : Nat} (hv : v ≤ 9) : TOk (svT T 3 d v) := by
  obtain ⟨h1, h2, h3, h4⟩ := hT
  refine ⟨h1, h2, fun i hi => ?_, h4⟩
  have h := h3 i hi
  rw [svT_n T 3 d v (by omega), svT_n T 3 d v (by omega), svT_n T 3 d v (by omega), svT_n T 3 d v (x := 4) (by omega), svT_n T 3 d v (x := 5) (by omega), svT_n T 3 d v (x := 6) (by omega), svT_n T 3 d v (x := 7) (by omega)]
  by_cases hid : i = d
  · subst hid
    rw [svT_e]
    omega
  · rw [svT_n T 3 d v (x := 3) (by omega)]
    exact h
theorem TX.sv3 {T : tT} {σ σ' : wS} {d v : Nat} (hX : TX T σ) (h : σ'.2.2.1 6 = upd (σ.2.2.1 6) d (iI (v : Int))) (hr : ∀ k, ¬ k = 6 → 3 ≤ k → k ≤ 11 → σ'.2.2.1 k = σ.2.2.1 k) (h102 : σ'.1 102 = σ.1 102) (h103 : σ'.1 103 = σ.1 103) : TX (svT T 3 d v) σ' := by
  obtain ⟨x1, x2, x3, x4⟩ := hX
  refine ⟨h102.trans x1, h103.trans x2, fun i hi => ?_, ?_⟩
  · have x := x3 i hi
    rw [hr 3 (by decide) (by decide) (by decide), hr 4 (by decide) (by decide) (by decide), hr 5 (by decide) (by decide) (by decide), hr 7 (by decide) (by decide) (by decide), hr 8 (by decide) (by decide) (by decide), hr 9 (by decide) (by decide) (by decide), hr 10 (by decide) (by decide) (by decide), h]
    rw [svT_n T 3 d v (by omega), svT_n T 3 d v (by omega), svT_n T 3 d v (by omega), svT_n T 3 d v (x := 4) (by omega), svT_n T 3 d v (x := 5) (by omega), svT_n T 3 d v (x := 6) (by omega), svT_n T 3 d v (x := 7) (by omega)]
    by_cases hid : i = d
    · subst hid
      rw [svT_e, k_upe rfl]
      exact ⟨x.1, x.2.1, x.2.2.1, rfl, x.2.2.2.2⟩
    · rw [svT_n T 3 d v (x := 3) (by omega), k_upn hid]
      exact x
  · rw [hr 11 (by decide) (by decide) (by decide)]
    exact x4
theorem TM.sv3 {T : tT} {μ μ' : wS} {d v : Nat} (hT : TOk T) (hd : d < tN T) (hM : TM T μ) (h : μ'.2.2.1 1 = upd (μ.2.2.1 1) (27 + d) (iI (v : Int))) (h2 : μ'.2.2.1 2 = μ.2.2.1 2) (h1 : μ'.1 1 = μ.1 1) (h3 : μ'.1 3 = μ.1 3) : TM (svT T 3 d v) μ' := by
  have hn9 := hT.1
  obtain ⟨x1, x2, x3, x4⟩ := hM
  refine ⟨h1.trans x1, h3.trans x2, fun i hi => ?_, ?_⟩
  · have hi : i < tN T := hi
    have x := x3 i hi
    rw [h]
    rw [svT_n T 3 d v (by omega), svT_n T 3 d v (by omega), svT_n T 3 d v (by omega), svT_n T 3 d v (x := 4) (by omega), svT_n T 3 d v (x := 5) (by omega), svT_n T 3 d v (x := 6) (by omega), svT_n T 3 d v (x := 7) (by omega)]
    rw [k_upn (show ¬ i = 27 + d by omega), k_upn (show ¬ 9 + i = 27 + d by omega), k_upn (show ¬ 18 + i = 27 + d by omega), k_upn (show ¬ 36 + i = 27 + d by omega), k_upn (show ¬ 45 + i = 27 + d by omega), k_upn (show ¬ 54 + i = 27 + d by omega), k_upn (show ¬ 63 + i = 27 + d by omega)]
    by_cases hid : i = d
    · subst hid
      rw [svT_e, k_upe rfl]
      exact ⟨x.1, x.2.1, x.2.2.1, rfl, x.2.2.2.2⟩
    · rw [svT_n T 3 d v (x := 3) (by omega), k_upn (show ¬ 27 + i = 27 + d by omega)]
      exact x
  · rw [h2]
    exact x4
section
variable {w : Bool} {T : tT} {M : kM} {σ μ : wS}
set_option maxRecDepth 100000 in
set_option maxHeartbeats 4000000 in
theorem pr_goOn {n : Nat} (hn9 : n ≤ 9) (h102 : σ.1 102 = iI (n : Int)) (h1 : μ.1 1 = iI (n : Int)) (hI : I_D n σ μ) : pS 139 243 [] w M σ μ (fun σ' μ' => I_D n σ' μ' ∧ Fr deI [] [] [] σ σ' ∧ Fr [] [] [24, 25, 26, 27] [] μ μ') := by
  have same : ∀ σ' μ', σ' = σ → μ' = μ → I_D n σ' μ' ∧ Fr deI [] [] [] σ σ' ∧ Fr [] [] [24, 25, 26, 27] [] μ μ' := fun σ' μ' e1 e2 => by
    rw [e1, e2]
    exact ⟨hI, Fr.rf, Fr.rf⟩
  obtain ⟨a, u, g, r, ⟨g1, g1', g1''⟩, ⟨g2, g3⟩, g4, g5, ⟨g6, g7⟩, g8, g9, g10, g11, g12, g13, g14, g15, g16⟩ := id hI
  have g2 : σ.1 5000 = iI (a : Int) := g2
  have g4 : σ.1 5001 = μ.2.2.1 24 2 := g4
  have g5 : σ.1 5002 = sm (μ.2.2.1 25) 9 := g5
  have g6 : σ.1 5003 = iI (u : Int) := g6
  have g8 : σ.1 5004 = μ.2.2.1 24 3 := g8
  have g9 : σ.1 5005 = μ.2.2.1 24 4 := g9
  have g11 : σ.1 5007 = iI (g a : Int) := g11
  have g12 : σ.1 5008 = iI (oN g a : Int) := g12
  have g13 : σ.1 5009 = iI (r a : Int) := g13
  have g14 : σ.1 5010 = iI (oN r a : Int) := g14
  by_cases h0 : n = 0
  · subst h0
    refine pS_of (v := .int (-5)) (P1 := fun σ' => σ' = σ) (P2 := fun μ' => μ' = μ) ?_ ?_ same
    · refine EvP.kof (T := tb_X10_goOn) rfl rfl ?_
      dsimp only [mc_pad, mc_exp]
      repeat' first
        | ((with_reducible apply GoP.k0); exact rfl; exact rfl)
        | ((with_reducible apply GoP.k1); exact rfl; exact rfl; all_goals (intro h; (try simp (disch := omega) only [jJ_lit, jJ_add, jJ_mul, iI_long, jJ_toI, l_lt, l_ge, l_gt, l_le, l_eq, l_ne, jJ_inj, k_ule, k_uln, iI_lit, iI_nat, iI_neg, iI_add, iI_sub, iI_mul, k_lt, k_ge, k_gt, k_le, k_eq, k_ne, k_cl, k_in, iI_inj, k_upe, k_upn, k_wue, k_wun, sI_1, sI_2, sI_3, sI_4, sJ_1, sJ_2, sJ_3, sJ_4, sA_1, sA_2, sA_3, sA_4, sB_1, sB_2, sB_3, sB_4, decide_eq_true_eq, decide_eq_false_iff_not, reduceCtorEq, Int.toNat_natCast, Bool.and_true, mc_tf, List.getD_cons_zero, List.getD_cons_succ, Int.reduceToNat, Int.reduceAdd, Int.reduceSub, Int.reduceMul, Int.reduceNeg, Int.reduceLT, Int.reduceLE, Int.reduceEq, not_true_eq_false, not_false_eq_true, decide_true, decide_false, h102] at h); (try (exfalso; omega))))
        | ((with_reducible apply GoP.k2); exact rfl; exact rfl; focus ((simp (disch := omega) only [jJ_lit, jJ_add, jJ_mul, iI_long, jJ_toI, l_lt, l_ge, l_gt, l_le, l_eq, l_ne, jJ_inj, k_ule, k_uln, iI_lit, iI_nat, iI_neg, iI_add, iI_sub, iI_mul, k_lt, k_ge, k_gt, k_le, k_eq, k_ne, k_cl, k_in, iI_inj, k_upe, k_upn, k_wue, k_wun, sI_1, sI_2, sI_3, sI_4, sJ_1, sJ_2, sJ_3, sJ_4, sA_1, sA_2, sA_3, sA_4, sB_1, sB_2, sB_3, sB_4, decide_eq_true_eq, decide_eq_false_iff_not, reduceCtorEq, Int.toNat_natCast, Bool.and_true, mc_tf, List.getD_cons_zero, List.getD_cons_succ, Int.reduceToNat, Int.reduceAdd, Int.reduceSub, Int.reduceMul, Int.reduceNeg, Int.reduceLT, Int.reduceLE, Int.reduceEq, not_true_eq_false, not_false_eq_true, decide_true, decide_false, h102]) <;> omega))
        | ((with_reducible apply GoP.k3); exact rfl; exact rfl; exact rfl; exact rfl; dsimp only [mc_pad, mc_exp])
        | ((with_reducible apply GoP.k4); exact rfl; exact rfl; exact rfl; try dsimp only [Option.toList, List.cons_append, List.nil_append])
        | ((with_reducible apply GoP.k5); exact rfl; exact rfl)
        | ((with_reducible apply GoA.sw); all_goals (intro h; (try simp (disch := omega) only [jJ_lit, jJ_add, jJ_mul, iI_long, jJ_toI, l_lt, l_ge, l_gt, l_le, l_eq, l_ne, jJ_inj, k_ule, k_uln, iI_lit, iI_nat, iI_neg, iI_add, iI_sub, iI_mul, k_lt, k_ge, k_gt, k_le, k_eq, k_ne, k_cl, k_in, iI_inj, k_upe, k_upn, k_wue, k_wun, sI_1, sI_2, sI_3, sI_4, sJ_1, sJ_2, sJ_3, sJ_4, sA_1, sA_2, sA_3, sA_4, sB_1, sB_2, sB_3, sB_4, decide_eq_true_eq, decide_eq_false_iff_not, reduceCtorEq, Int.toNat_natCast, Bool.and_true, mc_tf, List.getD_cons_zero, List.getD_cons_succ, Int.reduceToNat, Int.reduceAdd, Int.reduceSub, Int.reduceMul, Int.reduceNeg, Int.reduceLT, Int.reduceLE, Int.reduceEq, not_true_eq_false, not_false_eq_true, decide_true, decide_false, h102] at h); (try (exfalso; omega))))
        | ((with_reducible apply GoA.sw0))
        | ((with_reducible apply GoA.c); all_goals (intro h; (try simp (disch := omega) only [jJ_lit, jJ_add, jJ_mul, iI_long, jJ_toI, l_lt, l_ge, l_gt, l_le, l_eq, l_ne, jJ_inj, k_ule, k_uln, iI_lit, iI_nat, iI_neg, iI_add, iI_sub, iI_mul, k_lt, k_ge, k_gt, k_le, k_eq, k_ne, k_cl, k_in, iI_inj, k_upe, k_upn, k_wue, k_wun, sI_1, sI_2, sI_3, sI_4, sJ_1, sJ_2, sJ_3, sJ_4, sA_1, sA_2, sA_3, sA_4, sB_1, sB_2, sB_3, sB_4, decide_eq_true_eq, decide_eq_false_iff_not, reduceCtorEq, Int.toNat_natCast, Bool.and_true, mc_tf, List.getD_cons_zero, List.getD_cons_succ, Int.reduceToNat, Int.reduceAdd, Int.reduceSub, Int.reduceMul, Int.reduceNeg, Int.reduceLT, Int.reduceLE, Int.reduceEq, not_true_eq_false, not_false_eq_true, decide_true, decide_false, h102] at h); (try (exfalso; omega))))
        | ((with_reducible apply EvP.kof); exact rfl; exact rfl; dsimp only [mc_pad, mc_exp])
      all_goals exact ⟨σ, rfl, rfl⟩
    · refine EvP.kof (T := tb_X11_goOn) rfl rfl ?_
      dsimp only [mc_pad, mc_exp]
      repeat' first
        | ((with_reducible apply GoP.k0); exact rfl; exact rfl)
        | ((with_reducible apply GoP.k1); exact rfl; exact rfl; all_goals (intro h; (try simp (disch := omega) only [jJ_lit, jJ_add, jJ_mul, iI_long, jJ_toI, l_lt, l_ge, l_gt, l_le, l_eq, l_ne, jJ_inj, k_ule, k_uln, iI_lit, iI_nat, iI_neg, iI_add, iI_sub, iI_mul, k_lt, k_ge, k_gt, k_le, k_eq, k_ne, k_cl, k_in, iI_inj, k_upe, k_upn, k_wue, k_wun, sI_1, sI_2, sI_3, sI_4, sJ_1, sJ_2, sJ_3, sJ_4, sA_1, sA_2, sA_3, sA_4, sB_1, sB_2, sB_3, sB_4, decide_eq_true_eq, decide_eq_false_iff_not, reduceCtorEq, Int.toNat_natCast, Bool.and_true, mc_tf, List.getD_cons_zero, List.getD_cons_succ, Int.reduceToNat, Int.reduceAdd, Int.reduceSub, Int.reduceMul, Int.reduceNeg, Int.reduceLT, Int.reduceLE, Int.reduceEq, not_true_eq_false, not_false_eq_true, decide_true, decide_false, h1] at h); (try (exfalso; omega))))
        | ((with_reducible apply GoP.k2); exact rfl; exact rfl; focus ((simp (disch := omega) only [jJ_lit, jJ_add, jJ_mul, iI_long, jJ_toI, l_lt, l_ge, l_gt, l_le, l_eq, l_ne, jJ_inj, k_ule, k_uln, iI_lit, iI_nat, iI_neg, iI_add, iI_sub, iI_mul, k_lt, k_ge, k_gt, k_le, k_eq, k_ne, k_cl, k_in, iI_inj, k_upe, k_upn, k_wue, k_wun, sI_1, sI_2, sI_3, sI_4, sJ_1, sJ_2, sJ_3, sJ_4, sA_1, sA_2, sA_3, sA_4, sB_1, sB_2, sB_3, sB_4, decide_eq_true_eq, decide_eq_false_iff_not, reduceCtorEq, Int.toNat_natCast, Bool.and_true, mc_tf, List.getD_cons_zero, List.getD_cons_succ, Int.reduceToNat, Int.reduceAdd, Int.reduceSub, Int.reduceMul, Int.reduceNeg, Int.reduceLT, Int.reduceLE, Int.reduceEq, not_true_eq_false, not_false_eq_true, decide_true, decide_false, h1]) <;> omega))
        | ((with_reducible apply GoP.k3); exact rfl; exact rfl; exact rfl; exact rfl; dsimp only [mc_pad, mc_exp])
        | ((with_reducible apply GoP.k4); exact rfl; exact rfl; exact rfl; try dsimp only [Option.toList, List.cons_append, List.nil_append])
        | ((with_reducible apply GoP.k5); exact rfl; exact rfl)
        | ((with_reducible apply GoA.sw); all_goals (intro h; (try simp (disch := omega) only [jJ_lit, jJ_add, jJ_mul, iI_long, jJ_toI, l_lt, l_ge, l_gt, l_le, l_eq, l_ne, jJ_inj, k_ule, k_uln, iI_lit, iI_nat, iI_neg, iI_add, iI_sub, iI_mul, k_lt, k_ge, k_gt, k_le, k_eq, k_ne, k_cl, k_in, iI_inj, k_upe, k_upn, k_wue, k_wun, sI_1, sI_2, sI_3, sI_4, sJ_1, sJ_2, sJ_3, sJ_4, sA_1, sA_2, sA_3, sA_4, sB_1, sB_2, sB_3, sB_4, decide_eq_true_eq, decide_eq_false_iff_not, reduceCtorEq, Int.toNat_natCast, Bool.and_true, mc_tf, List.getD_cons_zero, List.getD_cons_succ, Int.reduceToNat, Int.reduceAdd, Int.reduceSub, Int.reduceMul, Int.reduceNeg, Int.reduceLT, Int.reduceLE, Int.reduceEq, not_true_eq_false, not_false_eq_true, decide_true, decide_false, h1] at h); (try (exfalso; omega))))
        | ((with_reducible apply GoA.sw0))
        | ((with_reducible apply GoA.c); all_goals (intro h; (try simp (disch := omega) only [jJ_lit, jJ_add, jJ_mul, iI_long, jJ_toI, l_lt, l_ge, l_gt, l_le, l_eq, l_ne, jJ_inj, k_ule, k_uln, iI_lit, iI_nat, iI_neg, iI_add, iI_sub, iI_mul, k_lt, k_ge, k_gt, k_le, k_eq, k_ne, k_cl, k_in, iI_inj, k_upe, k_upn, k_wue, k_wun, sI_1, sI_2, sI_3, sI_4, sJ_1, sJ_2, sJ_3, sJ_4, sA_1, sA_2, sA_3, sA_4, sB_1, sB_2, sB_3, sB_4, decide_eq_true_eq, decide_eq_false_iff_not, reduceCtorEq, Int.toNat_natCast, Bool.and_true, mc_tf, List.getD_cons_zero, List.getD_cons_succ, Int.reduceToNat, Int.reduceAdd, Int.reduceSub, Int.reduceMul, Int.reduceNeg, Int.reduceLT, Int.reduceLE, Int.reduceEq, not_true_eq_false, not_false_eq_true, decide_true, decide_false, h1] at h); (try (exfalso; omega))))
        | ((with_reducible apply EvP.kof); exact rfl; exact rfl; dsimp only [mc_pad, mc_exp])
      all_goals exact ⟨μ, rfl, rfl⟩
  · by_cases ha : a + 1 < n
    · refine pS_of (v := .int (iI ((a + 1 : Nat) : Int))) (P1 := fun σ' => σ' = sI (sI (sI (sI (sI (sI σ 5000 (σ.1 5000 + 1)) 5008 (σ.1 5008 ||| σ.1 5007)) 5010 (σ.1 5010 ||| σ.1 5009)) 5006 0) 5007 0) 5009 0) (P2 := fun μ' => μ' = sA μ 24 (upd (μ.2.2.1 24) 0 (μ.2.2.1 24 0 + 1))) ?_ ?_ (fun σ' μ' e1 e2 => ?_)
      · refine EvP.kof (T := tb_X10_goOn) rfl rfl ?_
        dsimp only [mc_pad, mc_exp]
        repeat' first
          | ((with_reducible apply GoP.k0); exact rfl; exact rfl)
          | ((with_reducible apply GoP.k1); exact rfl; exact rfl; all_goals (intro h; (try simp (disch := omega) only [jJ_lit, jJ_add, jJ_mul, iI_long, jJ_toI, l_lt, l_ge, l_gt, l_le, l_eq, l_ne, jJ_inj, k_ule, k_uln, iI_lit, iI_nat, iI_neg, iI_add, iI_sub, iI_mul, k_lt, k_ge, k_gt, k_le, k_eq, k_ne, k_cl, k_in, iI_inj, k_upe, k_upn, k_wue, k_wun, sI_1, sI_2, sI_3, sI_4, sJ_1, sJ_2, sJ_3, sJ_4, sA_1, sA_2, sA_3, sA_4, sB_1, sB_2, sB_3, sB_4, decide_eq_true_eq, decide_eq_false_iff_not, reduceCtorEq, Int.toNat_natCast, Bool.and_true, mc_tf, List.getD_cons_zero, List.getD_cons_succ, Int.reduceToNat, Int.reduceAdd, Int.reduceSub, Int.reduceMul, Int.reduceNeg, Int.reduceLT, Int.reduceLE, Int.reduceEq, not_true_eq_false, not_false_eq_true, decide_true, decide_false, h102, g2] at h); (try (exfalso; omega))))
          | ((with_reducible apply GoP.k2); exact rfl; exact rfl; focus ((simp (disch := omega) only [jJ_lit, jJ_add, jJ_mul, iI_long, jJ_toI, l_lt, l_ge, l_gt, l_le, l_eq, l_ne, jJ_inj, k_ule, k_uln, iI_lit, iI_nat, iI_neg, iI_add, iI_sub, iI_mul, k_lt, k_ge, k_gt, k_le, k_eq, k_ne, k_cl, k_in, iI_inj, k_upe, k_upn, k_wue, k_wun, sI_1, sI_2, sI_3, sI_4, sJ_1, sJ_2, sJ_3, sJ_4, sA_1, sA_2, sA_3, sA_4, sB_1, sB_2, sB_3, sB_4, decide_eq_true_eq, decide_eq_false_iff_not, reduceCtorEq, Int.toNat_natCast, Bool.and_true, mc_tf, List.getD_cons_zero, List.getD_cons_succ, Int.reduceToNat, Int.reduceAdd, Int.reduceSub, Int.reduceMul, Int.reduceNeg, Int.reduceLT, Int.reduceLE, Int.reduceEq, not_true_eq_false, not_false_eq_true, decide_true, decide_false, h102, g2]) <;> omega))
          | ((with_reducible apply GoP.k3); exact rfl; exact rfl; exact rfl; exact rfl; dsimp only [mc_pad, mc_exp])
          | ((with_reducible apply GoP.k4); exact rfl; exact rfl; exact rfl; try dsimp only [Option.toList, List.cons_append, List.nil_append])
          | ((with_reducible apply GoP.k5); exact rfl; exact rfl)
          | ((with_reducible apply GoA.sw); all_goals (intro h; (try simp (disch := omega) only [jJ_lit, jJ_add, jJ_mul, iI_long, jJ_toI, l_lt, l_ge, l_gt, l_le, l_eq, l_ne, jJ_inj, k_ule, k_uln, iI_lit, iI_nat, iI_neg, iI_add, iI_sub, iI_mul, k_lt, k_ge, k_gt, k_le, k_eq, k_ne, k_cl, k_in, iI_inj, k_upe, k_upn, k_wue, k_wun, sI_1, sI_2, sI_3, sI_4, sJ_1, sJ_2, sJ_3, sJ_4, sA_1, sA_2, sA_3, sA_4, sB_1, sB_2, sB_3, sB_4, decide_eq_true_eq, decide_eq_false_iff_not, reduceCtorEq, Int.toNat_natCast, Bool.and_true, mc_tf, List.getD_cons_zero, List.getD_cons_succ, Int.reduceToNat, Int.reduceAdd, Int.reduceSub, Int.reduceMul, Int.reduceNeg, Int.reduceLT, Int.reduceLE, Int.reduceEq, not_true_eq_false, not_false_eq_true, decide_true, decide_false, h102, g2] at h); (try (exfalso; omega))))
          | ((with_reducible apply GoA.sw0))
          | ((with_reducible apply GoA.c); all_goals (intro h; (try simp (disch := omega) only [jJ_lit, jJ_add, jJ_mul, iI_long, jJ_toI, l_lt, l_ge, l_gt, l_le, l_eq, l_ne, jJ_inj, k_ule, k_uln, iI_lit, iI_nat, iI_neg, iI_add, iI_sub, iI_mul, k_lt, k_ge, k_gt, k_le, k_eq, k_ne, k_cl, k_in, iI_inj, k_upe, k_upn, k_wue, k_wun, sI_1, sI_2, sI_3, sI_4, sJ_1, sJ_2, sJ_3, sJ_4, sA_1, sA_2, sA_3, sA_4, sB_1, sB_2, sB_3, sB_4, decide_eq_true_eq, decide_eq_false_iff_not, reduceCtorEq, Int.toNat_natCast, Bool.and_true, mc_tf, List.getD_cons_zero, List.getD_cons_succ, Int.reduceToNat, Int.reduceAdd, Int.reduceSub, Int.reduceMul, Int.reduceNeg, Int.reduceLT, Int.reduceLE, Int.reduceEq, not_true_eq_false, not_false_eq_true, decide_true, decide_false, h102, g2] at h); (try (exfalso; omega))))
          | ((with_reducible apply EvP.kof); exact rfl; exact rfl; dsimp only [mc_pad, mc_exp])
        refine ⟨_, R_int ?_ rfl, rfl⟩
        show σ.1 5000 + 1 = _
        rw [g2, iI_lit, iI_add]
        rfl
      · refine EvP.kof (T := tb_X11_goOn) rfl rfl ?_
        dsimp only [mc_pad, mc_exp]
        repeat' first
          | ((with_reducible apply GoP.k0); exact rfl; exact rfl)
          | ((with_reducible apply GoP.k1); exact rfl; exact rfl; all_goals (intro h; (try simp (disch := omega) only [jJ_lit, jJ_add, jJ_mul, iI_long, jJ_toI, l_lt, l_ge, l_gt, l_le, l_eq, l_ne, jJ_inj, k_ule, k_uln, iI_lit, iI_nat, iI_neg, iI_add, iI_sub, iI_mul, k_lt, k_ge, k_gt, k_le, k_eq, k_ne, k_cl, k_in, iI_inj, k_upe, k_upn, k_wue, k_wun, sI_1, sI_2, sI_3, sI_4, sJ_1, sJ_2, sJ_3, sJ_4, sA_1, sA_2, sA_3, sA_4, sB_1, sB_2, sB_3, sB_4, decide_eq_true_eq, decide_eq_false_iff_not, reduceCtorEq, Int.toNat_natCast, Bool.and_true, mc_tf, List.getD_cons_zero, List.getD_cons_succ, Int.reduceToNat, Int.reduceAdd, Int.reduceSub, Int.reduceMul, Int.reduceNeg, Int.reduceLT, Int.reduceLE, Int.reduceEq, not_true_eq_false, not_false_eq_true, decide_true, decide_false, h1, g3] at h); (try (exfalso; omega))))
          | ((with_reducible apply GoP.k2); exact rfl; exact rfl; focus ((simp (disch := omega) only [jJ_lit, jJ_add, jJ_mul, iI_long, jJ_toI, l_lt, l_ge, l_gt, l_le, l_eq, l_ne, jJ_inj, k_ule, k_uln, iI_lit, iI_nat, iI_neg, iI_add, iI_sub, iI_mul, k_lt, k_ge, k_gt, k_le, k_eq, k_ne, k_cl, k_in, iI_inj, k_upe, k_upn, k_wue, k_wun, sI_1, sI_2, sI_3, sI_4, sJ_1, sJ_2, sJ_3, sJ_4, sA_1, sA_2, sA_3, sA_4, sB_1, sB_2, sB_3, sB_4, decide_eq_true_eq, decide_eq_false_iff_not, reduceCtorEq, Int.toNat_natCast, Bool.and_true, mc_tf, List.getD_cons_zero, List.getD_cons_succ, Int.reduceToNat, Int.reduceAdd, Int.reduceSub, Int.reduceMul, Int.reduceNeg, Int.reduceLT, Int.reduceLE, Int.reduceEq, not_true_eq_false, not_false_eq_true, decide_true, decide_false, h1, g3]) <;> omega))
          | ((with_reducible apply GoP.k3); exact rfl; exact rfl; exact rfl; exact rfl; dsimp only [mc_pad, mc_exp])
          | ((with_reducible apply GoP.k4); exact rfl; exact rfl; exact rfl; try dsimp only [Option.toList, List.cons_append, List.nil_append])
          | ((with_reducible apply GoP.k5); exact rfl; exact rfl)
          | ((with_reducible apply GoA.sw); all_goals (intro h; (try simp (disch := omega) only [jJ_lit, jJ_add, jJ_mul, iI_long, jJ_toI, l_lt, l_ge, l_gt, l_le, l_eq, l_ne, jJ_inj, k_ule, k_uln, iI_lit, iI_nat, iI_neg, iI_add, iI_sub, iI_mul, k_lt, k_ge, k_gt, k_le, k_eq, k_ne, k_cl, k_in, iI_inj, k_upe, k_upn, k_wue, k_wun, sI_1, sI_2, sI_3, sI_4, sJ_1, sJ_2, sJ_3, sJ_4, sA_1, sA_2, sA_3, sA_4, sB_1, sB_2, sB_3, sB_4, decide_eq_true_eq, decide_eq_false_iff_not, reduceCtorEq, Int.toNat_natCast, Bool.and_true, mc_tf, List.getD_cons_zero, List.getD_cons_succ, Int.reduceToNat, Int.reduceAdd, Int.reduceSub, Int.reduceMul, Int.reduceNeg, Int.reduceLT, Int.reduceLE, Int.reduceEq, not_true_eq_false, not_false_eq_true, decide_true, decide_false, h1, g3] at h); (try (exfalso; omega))))
          | ((with_reducible apply GoA.sw0))
          | ((with_reducible apply GoA.c); all_goals (intro h; (try simp (disch := omega) only [jJ_lit, jJ_add, jJ_mul, iI_long, jJ_toI, l_lt, l_ge, l_gt, l_le, l_eq, l_ne, jJ_inj, k_ule, k_uln, iI_lit, iI_nat, iI_neg, iI_add, iI_sub, iI_mul, k_lt, k_ge, k_gt, k_le, k_eq, k_ne, k_cl, k_in, iI_inj, k_upe, k_upn, k_wue, k_wun, sI_1, sI_2, sI_3, sI_4, sJ_1, sJ_2, sJ_3, sJ_4, sA_1, sA_2, sA_3, sA_4, sB_1, sB_2, sB_3, sB_4, decide_eq_true_eq, decide_eq_false_iff_not, reduceCtorEq, Int.toNat_natCast, Bool.and_true, mc_tf, List.getD_cons_zero, List.getD_cons_succ, Int.reduceToNat, Int.reduceAdd, Int.reduceSub, Int.reduceMul, Int.reduceNeg, Int.reduceLT, Int.reduceLE, Int.reduceEq, not_true_eq_false, not_false_eq_true, decide_true, decide_false, h1, g3] at h); (try (exfalso; omega))))
          | ((with_reducible apply EvP.kof); exact rfl; exact rfl; dsimp only [mc_pad, mc_exp])
        refine ⟨_, R_int ?_ rfl, rfl⟩
        show μ.2.2.1 24 0 + 1 = _
        rw [g3, iI_lit, iI_add]
        rfl
      · subst e1
        subst e2
        refine ⟨⟨a + 1, u, g, r, ⟨by omega, Or.inl ha, g1''⟩, ⟨?_, ?_⟩, g4, g5, ⟨g6, g7⟩, g8, g9, ?_, ?_, ?_, ?_, ?_, g15, fun j hj hj9 => g16 j (by omega) hj9⟩, ?_, Fr.sA (by decide)⟩
        · show σ.1 5000 + 1 = _
          rw [g2, iI_lit, iI_add]
          rfl
        · show μ.2.2.1 24 0 + 1 = _
          rw [g3, iI_lit, iI_add]
          rfl
        · exact (g16 (a + 1) (by omega) (by omega)).1.symm
        · show (0 : Int32) = iI (g (a + 1) : Int)
          rw [(g16 (a + 1) (by omega) (by omega)).2.1]
          exact iI_lit 0
        · show σ.1 5008 ||| σ.1 5007 = iI ((oN g a ||| g a : Nat) : Int)
          rw [g11, g12, iI_or]
        · show (0 : Int32) = iI (r (a + 1) : Int)
          rw [(g16 (a + 1) (by omega) (by omega)).2.2]
          exact iI_lit 0
        · show σ.1 5010 ||| σ.1 5009 = iI ((oN r a ||| r a : Nat) : Int)
          rw [g13, g14, iI_or]
        · exact (((((Fr.sI (by decide)).tr (Fr.sI (by decide))).tr (Fr.sI (by decide))).tr (Fr.sI (by decide))).tr (Fr.sI (by decide))).tr (Fr.sI (by decide))
    · refine pS_of (v := .int (-2)) (P1 := fun σ' => (σ'.1 5000 = 0 ∧ σ'.1 5001 = 0 ∧ σ'.1 5002 = 0 ∧ σ'.1 5003 = 0 ∧ σ'.1 5004 = σ.1 5004 + 1 ∧ σ'.1 5005 = σ.1 5005 + σ.1 5001 ∧ σ'.1 5006 = 0 ∧ σ'.1 5007 = 0 ∧ σ'.1 5008 = 0 ∧ σ'.1 5009 = 0 ∧ σ'.1 5010 = 0) ∧ Fr deI [] [] [] σ σ') (P2 := fun μ' => (∀ j, j < 9 → μ'.2.2.1 25 j = 0 ∧ μ'.2.2.1 26 j = 0 ∧ μ'.2.2.1 27 j = 0) ∧ (μ'.2.2.1 24 0 = 0 ∧ μ'.2.2.1 24 1 = 0 ∧ μ'.2.2.1 24 2 = 0 ∧ μ'.2.2.1 24 3 = μ.2.2.1 24 3 + 1 ∧ μ'.2.2.1 24 4 = μ.2.2.1 24 4 + μ.2.2.1 24 2) ∧ Fr [] [] [24, 25, 26, 27] [] μ μ') ?_ ?_ (fun σ' μ' h1 h2 => ?_)
      · refine EvP.kof (T := tb_X10_goOn) rfl rfl ?_
        dsimp only [mc_pad, mc_exp]
        repeat' first
          | ((with_reducible apply GoP.k0); exact rfl; exact rfl)
          | ((with_reducible apply GoP.k1); exact rfl; exact rfl; all_goals (intro h; (try simp (disch := omega) only [jJ_lit, jJ_add, jJ_mul, iI_long, jJ_toI, l_lt, l_ge, l_gt, l_le, l_eq, l_ne, jJ_inj, k_ule, k_uln, iI_lit, iI_nat, iI_neg, iI_add, iI_sub, iI_mul, k_lt, k_ge, k_gt, k_le, k_eq, k_ne, k_cl, k_in, iI_inj, k_upe, k_upn, k_wue, k_wun, sI_1, sI_2, sI_3, sI_4, sJ_1, sJ_2, sJ_3, sJ_4, sA_1, sA_2, sA_3, sA_4, sB_1, sB_2, sB_3, sB_4, decide_eq_true_eq, decide_eq_false_iff_not, reduceCtorEq, Int.toNat_natCast, Bool.and_true, mc_tf, List.getD_cons_zero, List.getD_cons_succ, Int.reduceToNat, Int.reduceAdd, Int.reduceSub, Int.reduceMul, Int.reduceNeg, Int.reduceLT, Int.reduceLE, Int.reduceEq, not_true_eq_false, not_false_eq_true, decide_true, decide_false, h102, g2] at h); (try (exfalso; omega))))
          | ((with_reducible apply GoP.k2); exact rfl; exact rfl; focus ((simp (disch := omega) only [jJ_lit, jJ_add, jJ_mul, iI_long, jJ_toI, l_lt, l_ge, l_gt, l_le, l_eq, l_ne, jJ_inj, k_ule, k_uln, iI_lit, iI_nat, iI_neg, iI_add, iI_sub, iI_mul, k_lt, k_ge, k_gt, k_le, k_eq, k_ne, k_cl, k_in, iI_inj, k_upe, k_upn, k_wue, k_wun, sI_1, sI_2, sI_3, sI_4, sJ_1, sJ_2, sJ_3, sJ_4, sA_1, sA_2, sA_3, sA_4, sB_1, sB_2, sB_3, sB_4, decide_eq_true_eq, decide_eq_false_iff_not, reduceCtorEq, Int.toNat_natCast, Bool.and_true, mc_tf, List.getD_cons_zero, List.getD_cons_succ, Int.reduceToNat, Int.reduceAdd, Int.reduceSub, Int.reduceMul, Int.reduceNeg, Int.reduceLT, Int.reduceLE, Int.reduceEq, not_true_eq_false, not_false_eq_true, decide_true, decide_false, h102, g2]) <;> omega))
          | ((with_reducible apply GoP.k3); exact rfl; exact rfl; exact rfl; exact rfl; dsimp only [mc_pad, mc_exp])
          | ((with_reducible apply GoP.k4); exact rfl; exact rfl; exact rfl; try dsimp only [Option.toList, List.cons_append, List.nil_append])
          | ((with_reducible apply GoP.k5); exact rfl; exact rfl)
          | ((with_reducible apply GoA.sw); all_goals (intro h; (try simp (disch := omega) only [jJ_lit, jJ_add, jJ_mul, iI_long, jJ_toI, l_lt, l_ge, l_gt, l_le, l_eq, l_ne, jJ_inj, k_ule, k_uln, iI_lit, iI_nat, iI_neg, iI_add, iI_sub, iI_mul, k_lt, k_ge, k_gt, k_le, k_eq, k_ne, k_cl, k_in, iI_inj, k_upe, k_upn, k_wue, k_wun, sI_1, sI_2, sI_3, sI_4, sJ_1, sJ_2, sJ_3, sJ_4, sA_1, sA_2, sA_3, sA_4, sB_1, sB_2, sB_3, sB_4, decide_eq_true_eq, decide_eq_false_iff_not, reduceCtorEq, Int.toNat_natCast, Bool.and_true, mc_tf, List.getD_cons_zero, List.getD_cons_succ, Int.reduceToNat, Int.reduceAdd, Int.reduceSub, Int.reduceMul, Int.reduceNeg, Int.reduceLT, Int.reduceLE, Int.reduceEq, not_true_eq_false, not_false_eq_true, decide_true, decide_false, h102, g2] at h); (try (exfalso; omega))))
          | ((with_reducible apply GoA.sw0))
          | ((with_reducible apply GoA.c); all_goals (intro h; (try simp (disch := omega) only [jJ_lit, jJ_add, jJ_mul, iI_long, jJ_toI, l_lt, l_ge, l_gt, l_le, l_eq, l_ne, jJ_inj, k_ule, k_uln, iI_lit, iI_nat, iI_neg, iI_add, iI_sub, iI_mul, k_lt, k_ge, k_gt, k_le, k_eq, k_ne, k_cl, k_in, iI_inj, k_upe, k_upn, k_wue, k_wun, sI_1, sI_2, sI_3, sI_4, sJ_1, sJ_2, sJ_3, sJ_4, sA_1, sA_2, sA_3, sA_4, sB_1, sB_2, sB_3, sB_4, decide_eq_true_eq, decide_eq_false_iff_not, reduceCtorEq, Int.toNat_natCast, Bool.and_true, mc_tf, List.getD_cons_zero, List.getD_cons_succ, Int.reduceToNat, Int.reduceAdd, Int.reduceSub, Int.reduceMul, Int.reduceNeg, Int.reduceLT, Int.reduceLE, Int.reduceEq, not_true_eq_false, not_false_eq_true, decide_true, decide_false, h102, g2] at h); (try (exfalso; omega))))
          | ((with_reducible apply EvP.kof); exact rfl; exact rfl; dsimp only [mc_pad, mc_exp])
        exact ⟨sI (sI (sI (sI (sI (sI (sI (sI (sI (sI (sI σ 5004 (σ.1 5004 + 1)) 5005 (σ.1 5005 + σ.1 5001)) 5000 0) 5001 0) 5002 0) 5003 0) 5008 0) 5010 0) 5006 0) 5007 0) 5009 0, rfl, ⟨rfl, rfl, rfl, rfl, rfl, rfl, rfl, rfl, rfl, rfl, rfl⟩, ((((((((((Fr.sI (by decide)).tr (Fr.sI (by decide))).tr (Fr.sI (by decide))).tr (Fr.sI (by decide))).tr (Fr.sI (by decide))).tr (Fr.sI (by decide))).tr (Fr.sI (by decide))).tr (Fr.sI (by decide))).tr (Fr.sI (by decide))).tr (Fr.sI (by decide))).tr (Fr.sI (by decide))⟩
      · refine EvP.kof (T := tb_X11_goOn) rfl rfl ?_
        dsimp only [mc_pad, mc_exp]
        repeat' first
          | ((with_reducible show GoP _ tb_X11_goOn (68, _) _); refine Hold.of ?_)
          | ((with_reducible apply GoP.k0); exact rfl; exact rfl)
          | ((with_reducible apply GoP.k1); exact rfl; exact rfl; all_goals (intro h; (try simp (disch := omega) only [jJ_lit, jJ_add, jJ_mul, iI_long, jJ_toI, l_lt, l_ge, l_gt, l_le, l_eq, l_ne, jJ_inj, k_ule, k_uln, iI_lit, iI_nat, iI_neg, iI_add, iI_sub, iI_mul, k_lt, k_ge, k_gt, k_le, k_eq, k_ne, k_cl, k_in, iI_inj, k_upe, k_upn, k_wue, k_wun, sI_1, sI_2, sI_3, sI_4, sJ_1, sJ_2, sJ_3, sJ_4, sA_1, sA_2, sA_3, sA_4, sB_1, sB_2, sB_3, sB_4, decide_eq_true_eq, decide_eq_false_iff_not, reduceCtorEq, Int.toNat_natCast, Bool.and_true, mc_tf, List.getD_cons_zero, List.getD_cons_succ, Int.reduceToNat, Int.reduceAdd, Int.reduceSub, Int.reduceMul, Int.reduceNeg, Int.reduceLT, Int.reduceLE, Int.reduceEq, not_true_eq_false, not_false_eq_true, decide_true, decide_false, h1, g3] at h); (try (exfalso; omega))))
          | ((with_reducible apply GoP.k2); exact rfl; exact rfl; focus ((simp (disch := omega) only [jJ_lit, jJ_add, jJ_mul, iI_long, jJ_toI, l_lt, l_ge, l_gt, l_le, l_eq, l_ne, jJ_inj, k_ule, k_uln, iI_lit, iI_nat, iI_neg, iI_add, iI_sub, iI_mul, k_lt, k_ge, k_gt, k_le, k_eq, k_ne, k_cl, k_in, iI_inj, k_upe, k_upn, k_wue, k_wun, sI_1, sI_2, sI_3, sI_4, sJ_1, sJ_2, sJ_3, sJ_4, sA_1, sA_2, sA_3, sA_4, sB_1, sB_2, sB_3, sB_4, decide_eq_true_eq, decide_eq_false_iff_not, reduceCtorEq, Int.toNat_natCast, Bool.and_true, mc_tf, List.getD_cons_zero, List.getD_cons_succ, Int.reduceToNat, Int.reduceAdd, Int.reduceSub, Int.reduceMul, Int.reduceNeg, Int.reduceLT, Int.reduceLE, Int.reduceEq, not_true_eq_false, not_false_eq_true, decide_true, decide_false, h1, g3]) <;> omega))
          | ((with_reducible apply GoP.k3); exact rfl; exact rfl; exact rfl; exact rfl; dsimp only [mc_pad, mc_exp])
          | ((with_reducible apply GoP.k4); exact rfl; exact rfl; exact rfl; try dsimp only [Option.toList, List.cons_append, List.nil_append])
          | ((with_reducible apply GoP.k5); exact rfl; exact rfl)
          | ((with_reducible apply GoA.sw); all_goals (intro h; (try simp (disch := omega) only [jJ_lit, jJ_add, jJ_mul, iI_long, jJ_toI, l_lt, l_ge, l_gt, l_le, l_eq, l_ne, jJ_inj, k_ule, k_uln, iI_lit, iI_nat, iI_neg, iI_add, iI_sub, iI_mul, k_lt, k_ge, k_gt, k_le, k_eq, k_ne, k_cl, k_in, iI_inj, k_upe, k_upn, k_wue, k_wun, sI_1, sI_2, sI_3, sI_4, sJ_1, sJ_2, sJ_3, sJ_4, sA_1, sA_2, sA_3, sA_4, sB_1, sB_2, sB_3, sB_4, decide_eq_true_eq, decide_eq_false_iff_not, reduceCtorEq, Int.toNat_natCast, Bool.and_true, mc_tf, List.getD_cons_zero, List.getD_cons_succ, Int.reduceToNat, Int.reduceAdd, Int.reduceSub, Int.reduceMul, Int.reduceNeg, Int.reduceLT, Int.reduceLE, Int.reduceEq, not_true_eq_false, not_false_eq_true, decide_true, decide_false, h1, g3] at h); (try (exfalso; omega))))
          | ((with_reducible apply GoA.sw0))
          | ((with_reducible apply GoA.c); all_goals (intro h; (try simp (disch := omega) only [jJ_lit, jJ_add, jJ_mul, iI_long, jJ_toI, l_lt, l_ge, l_gt, l_le, l_eq, l_ne, jJ_inj, k_ule, k_uln, iI_lit, iI_nat, iI_neg, iI_add, iI_sub, iI_mul, k_lt, k_ge, k_gt, k_le, k_eq, k_ne, k_cl, k_in, iI_inj, k_upe, k_upn, k_wue, k_wun, sI_1, sI_2, sI_3, sI_4, sJ_1, sJ_2, sJ_3, sJ_4, sA_1, sA_2, sA_3, sA_4, sB_1, sB_2, sB_3, sB_4, decide_eq_true_eq, decide_eq_false_iff_not, reduceCtorEq, Int.toNat_natCast, Bool.and_true, mc_tf, List.getD_cons_zero, List.getD_cons_succ, Int.reduceToNat, Int.reduceAdd, Int.reduceSub, Int.reduceMul, Int.reduceNeg, Int.reduceLT, Int.reduceLE, Int.reduceEq, not_true_eq_false, not_false_eq_true, decide_true, decide_false, h1, g3] at h); (try (exfalso; omega))))
          | ((with_reducible apply EvP.kof); exact rfl; exact rfl; dsimp only [mc_pad, mc_exp])
        show GoP _ _ (_, _, _, mkM (sA μ 24 _), _, _) _
        refine GoP.kc rfl (ct_emptyPlate (by omega)) ?_
        rintro R ⟨μ1, rfl, b1, ⟨b2, b3, b4, b5, b6⟩, bF⟩
        dsimp only [Option.toList, List.cons_append, List.nil_append]
        repeat' first
          | ((with_reducible apply GoP.k0); exact rfl; exact rfl)
          | ((with_reducible apply GoP.k1); exact rfl; exact rfl; all_goals (intro h; (try simp (disch := omega) only [jJ_lit, jJ_add, jJ_mul, iI_long, jJ_toI, l_lt, l_ge, l_gt, l_le, l_eq, l_ne, jJ_inj, k_ule, k_uln, iI_lit, iI_nat, iI_neg, iI_add, iI_sub, iI_mul, k_lt, k_ge, k_gt, k_le, k_eq, k_ne, k_cl, k_in, iI_inj, k_upe, k_upn, k_wue, k_wun, sI_1, sI_2, sI_3, sI_4, sJ_1, sJ_2, sJ_3, sJ_4, sA_1, sA_2, sA_3, sA_4, sB_1, sB_2, sB_3, sB_4, decide_eq_true_eq, decide_eq_false_iff_not, reduceCtorEq, Int.toNat_natCast, Bool.and_true, mc_tf, List.getD_cons_zero, List.getD_cons_succ, Int.reduceToNat, Int.reduceAdd, Int.reduceSub, Int.reduceMul, Int.reduceNeg, Int.reduceLT, Int.reduceLE, Int.reduceEq, not_true_eq_false, not_false_eq_true, decide_true, decide_false] at h); (try (exfalso; omega))))
          | ((with_reducible apply GoP.k2); exact rfl; exact rfl; focus ((simp (disch := omega) only [jJ_lit, jJ_add, jJ_mul, iI_long, jJ_toI, l_lt, l_ge, l_gt, l_le, l_eq, l_ne, jJ_inj, k_ule, k_uln, iI_lit, iI_nat, iI_neg, iI_add, iI_sub, iI_mul, k_lt, k_ge, k_gt, k_le, k_eq, k_ne, k_cl, k_in, iI_inj, k_upe, k_upn, k_wue, k_wun, sI_1, sI_2, sI_3, sI_4, sJ_1, sJ_2, sJ_3, sJ_4, sA_1, sA_2, sA_3, sA_4, sB_1, sB_2, sB_3, sB_4, decide_eq_true_eq, decide_eq_false_iff_not, reduceCtorEq, Int.toNat_natCast, Bool.and_true, mc_tf, List.getD_cons_zero, List.getD_cons_succ, Int.reduceToNat, Int.reduceAdd, Int.reduceSub, Int.reduceMul, Int.reduceNeg, Int.reduceLT, Int.reduceLE, Int.reduceEq, not_true_eq_false, not_false_eq_true, decide_true, decide_false]) <;> omega))
          | ((with_reducible apply GoP.k4); exact rfl; exact rfl; exact rfl; try dsimp only [Option.toList, List.cons_append, List.nil_append])
          | ((with_reducible apply GoP.k5); exact rfl; exact rfl)
          | ((with_reducible apply GoA.sw); all_goals (intro h; (try simp (disch := omega) only [jJ_lit, jJ_add, jJ_mul, iI_long, jJ_toI, l_lt, l_ge, l_gt, l_le, l_eq, l_ne, jJ_inj, k_ule, k_uln, iI_lit, iI_nat, iI_neg, iI_add, iI_sub, iI_mul, k_lt, k_ge, k_gt, k_le, k_eq, k_ne, k_cl, k_in, iI_inj, k_upe, k_upn, k_wue, k_wun, sI_1, sI_2, sI_3, sI_4, sJ_1, sJ_2, sJ_3, sJ_4, sA_1, sA_2, sA_3, sA_4, sB_1, sB_2, sB_3, sB_4, decide_eq_true_eq, decide_eq_false_iff_not, reduceCtorEq, Int.toNat_natCast, Bool.and_true, mc_tf, List.getD_cons_zero, List.getD_cons_succ, Int.reduceToNat, Int.reduceAdd, Int.reduceSub, Int.reduceMul, Int.reduceNeg, Int.reduceLT, Int.reduceLE, Int.reduceEq, not_true_eq_false, not_false_eq_true, decide_true, decide_false] at h); (try (exfalso; omega))))
          | ((with_reducible apply GoA.sw0))
          | ((with_reducible apply GoA.c); all_goals (intro h; (try simp (disch := omega) only [jJ_lit, jJ_add, jJ_mul, iI_long, jJ_toI, l_lt, l_ge, l_gt, l_le, l_eq, l_ne, jJ_inj, k_ule, k_uln, iI_lit, iI_nat, iI_neg, iI_add, iI_sub, iI_mul, k_lt, k_ge, k_gt, k_le, k_eq, k_ne, k_cl, k_in, iI_inj, k_upe, k_upn, k_wue, k_wun, sI_1, sI_2, sI_3, sI_4, sJ_1, sJ_2, sJ_3, sJ_4, sA_1, sA_2, sA_3, sA_4, sB_1, sB_2, sB_3, sB_4, decide_eq_true_eq, decide_eq_false_iff_not, reduceCtorEq, Int.toNat_natCast, Bool.and_true, mc_tf, List.getD_cons_zero, List.getD_cons_succ, Int.reduceToNat, Int.reduceAdd, Int.reduceSub, Int.reduceMul, Int.reduceNeg, Int.reduceLT, Int.reduceLE, Int.reduceEq, not_true_eq_false, not_false_eq_true, decide_true, decide_false] at h); (try (exfalso; omega))))
        refine ⟨μ1, rfl, b1, ⟨b2, b3, b4, b5.trans ?_, b6.trans ?_⟩, (Fr.sA (by decide)).tr bF⟩
        · rfl
        · rfl
      · obtain ⟨⟨a0, a1, a2, a3, a4, a5, a6, a7, a8, a9, a10⟩, aF⟩ := h1
        obtain ⟨b1, ⟨c0, c1, c2, c3, c4⟩, bF⟩ := h2
        refine ⟨DD.nil ⟨a0, c0⟩ ⟨a1, c2⟩ a2 ⟨a3, c1⟩ (a4.trans ?_) (a5.trans ?_) a6 a7 a8 a9 a10 b1, aF, bF⟩
        · rw [g8]
          exact c3.symm
        · rw [g9, g4]
          exact c4.symm
end
