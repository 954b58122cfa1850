section
variable {w : Bool} {M : kM} {σ μ : wS}
set_option maxRecDepth 100000 in
set_option maxHeartbeats 4000000 in
/-- the reference's shift, when nothing stands against it -/
theorem cm_shiftOk {s o i j n k N N' : Nat} (hs : s < 6) (ho : o < 6) (hk : k < 1000) (hN : N ≤ 60) (hN' : N' ≤ 60) (hin : i + n ≤ N) (hjn : j + n ≤ N') (e32s : μ.2.2.1 32 s = iI (-2 - (k : Int))) (e32o : μ.2.2.1 32 o = iI (-2 - (k : Int))) (e33s : μ.2.2.1 33 s = iI (N : Int)) (e33o : μ.2.2.1 33 o = iI (N' : Int)) : EvP 60 273 [.ref 0, .int (iI (s : Int)), .int (iI (i : Int)), .int (iI (o : Int)), .int (iI (j : Int)), .int (iI (n : Int))] (mkM μ) (fun R => ∃ μ', R = (some (.int (iI (n : Int))), mkM μ', 0, 0) ∧ (∀ q, 60 * o + j ≤ q → q < 60 * o + j + n → μ'.2.2.2 34 q = μ.2.2.2 34 (60 * s + i + (q - (60 * o + j)))) ∧ (∀ q, ¬ (60 * o + j ≤ q ∧ q < 60 * o + j + n) → μ'.2.2.2 34 q = μ.2.2.2 34 q) ∧ Fr [] [] [] [34, 35] μ μ') := by
  have f32s : μ.2.2.1 32 (iI (s : Int)).toNatClampNeg = iI (-2 - (k : Int)) := by
    rw [k_cl (by omega), ← e32s]
    congr 1
  have f32o : μ.2.2.1 32 (iI (o : Int)).toNatClampNeg = iI (-2 - (k : Int)) := by
    rw [k_cl (by omega), ← e32o]
    congr 1
  have f33s : μ.2.2.1 33 (iI (s : Int)).toNatClampNeg = iI (N : Int) := by
    rw [k_cl (by omega), ← e33s]
    congr 1
  have f33o : μ.2.2.1 33 (iI (o : Int)).toNatClampNeg = iI (N' : Int) := by
    rw [k_cl (by omega), ← e33o]
    congr 1
  refine EvP.kof (T := tb_X11_shift) rfl rfl ?_
  dsimp only [mc_pad, mc_exp]
  have hl := lm_shC (D := 59) (s := s) (o := o) (i := i) (j := j) (n := n) (μ0 := μ) hs ho (by omega) (by omega) n 0 μ (Nat.zero_add _) (fun q a => by omega) Fr.rf
  repeat' first
    | ((with_reducible show GoP _ tb_X11_shift (113, _) _); refine Hold.of ?_)
    | ((with_reducible apply GoP.k0); exact rfl; exact rfl)
    | ((with_reducible apply GoP.k1); exact rfl; exact rfl; all_goals (intro h; (try simp (disch := omega) only [jJ_lit, jJ_add, jJ_mul, iI_long, jJ_toI, l_lt, l_ge, l_gt, l_le, l_eq, l_ne, jJ_inj, k_ule, k_uln, iI_lit, iI_nat, iI_neg, iI_add, iI_sub, iI_mul, k_lt, k_ge, k_gt, k_le, k_eq, k_ne, k_cl, k_in, iI_inj, k_upe, k_upn, k_wue, k_wun, sI_1, sI_2, sI_3, sI_4, sJ_1, sJ_2, sJ_3, sJ_4, sA_1, sA_2, sA_3, sA_4, sB_1, sB_2, sB_3, sB_4, decide_eq_true_eq, decide_eq_false_iff_not, reduceCtorEq, Int.toNat_natCast, Bool.and_true, mc_tf, List.getD_cons_zero, List.getD_cons_succ, Int.reduceToNat, Int.reduceAdd, Int.reduceSub, Int.reduceMul, Int.reduceNeg, Int.reduceLT, Int.reduceLE, Int.reduceEq, not_true_eq_false, not_false_eq_true, decide_true, decide_false, f32s, f32o, f33s, f33o, e32s, e32o, e33s, e33o] at h); (try (exfalso; omega))))
    | ((with_reducible apply GoP.k2); exact rfl; exact rfl; focus ((simp (disch := omega) only [jJ_lit, jJ_add, jJ_mul, iI_long, jJ_toI, l_lt, l_ge, l_gt, l_le, l_eq, l_ne, jJ_inj, k_ule, k_uln, iI_lit, iI_nat, iI_neg, iI_add, iI_sub, iI_mul, k_lt, k_ge, k_gt, k_le, k_eq, k_ne, k_cl, k_in, iI_inj, k_upe, k_upn, k_wue, k_wun, sI_1, sI_2, sI_3, sI_4, sJ_1, sJ_2, sJ_3, sJ_4, sA_1, sA_2, sA_3, sA_4, sB_1, sB_2, sB_3, sB_4, decide_eq_true_eq, decide_eq_false_iff_not, reduceCtorEq, Int.toNat_natCast, Bool.and_true, mc_tf, List.getD_cons_zero, List.getD_cons_succ, Int.reduceToNat, Int.reduceAdd, Int.reduceSub, Int.reduceMul, Int.reduceNeg, Int.reduceLT, Int.reduceLE, Int.reduceEq, not_true_eq_false, not_false_eq_true, decide_true, decide_false, f32s, f32o, f33s, f33o, e32s, e32o, e33s, e33o]) <;> omega))
    | ((with_reducible apply GoP.k3); exact rfl; exact rfl; exact rfl; exact rfl; dsimp only [mc_pad, mc_exp])
    | ((with_reducible apply GoP.k4); exact rfl; exact rfl; exact rfl; try dsimp only [Option.toList, List.cons_append, List.nil_append])
    | ((with_reducible apply GoP.k5); exact rfl; exact rfl)
    | ((with_reducible apply GoA.sw); all_goals (intro h; (try simp (disch := omega) only [jJ_lit, jJ_add, jJ_mul, iI_long, jJ_toI, l_lt, l_ge, l_gt, l_le, l_eq, l_ne, jJ_inj, k_ule, k_uln, iI_lit, iI_nat, iI_neg, iI_add, iI_sub, iI_mul, k_lt, k_ge, k_gt, k_le, k_eq, k_ne, k_cl, k_in, iI_inj, k_upe, k_upn, k_wue, k_wun, sI_1, sI_2, sI_3, sI_4, sJ_1, sJ_2, sJ_3, sJ_4, sA_1, sA_2, sA_3, sA_4, sB_1, sB_2, sB_3, sB_4, decide_eq_true_eq, decide_eq_false_iff_not, reduceCtorEq, Int.toNat_natCast, Bool.and_true, mc_tf, List.getD_cons_zero, List.getD_cons_succ, Int.reduceToNat, Int.reduceAdd, Int.reduceSub, Int.reduceMul, Int.reduceNeg, Int.reduceLT, Int.reduceLE, Int.reduceEq, not_true_eq_false, not_false_eq_true, decide_true, decide_false, f32s, f32o, f33s, f33o, e32s, e32o, e33s, e33o] at h); (try (exfalso; omega))))
    | ((with_reducible apply GoA.sw0))
    | ((with_reducible apply GoA.c); all_goals (intro h; (try simp (disch := omega) only [jJ_lit, jJ_add, jJ_mul, iI_long, jJ_toI, l_lt, l_ge, l_gt, l_le, l_eq, l_ne, jJ_inj, k_ule, k_uln, iI_lit, iI_nat, iI_neg, iI_add, iI_sub, iI_mul, k_lt, k_ge, k_gt, k_le, k_eq, k_ne, k_cl, k_in, iI_inj, k_upe, k_upn, k_wue, k_wun, sI_1, sI_2, sI_3, sI_4, sJ_1, sJ_2, sJ_3, sJ_4, sA_1, sA_2, sA_3, sA_4, sB_1, sB_2, sB_3, sB_4, decide_eq_true_eq, decide_eq_false_iff_not, reduceCtorEq, Int.toNat_natCast, Bool.and_true, mc_tf, List.getD_cons_zero, List.getD_cons_succ, Int.reduceToNat, Int.reduceAdd, Int.reduceSub, Int.reduceMul, Int.reduceNeg, Int.reduceLT, Int.reduceLE, Int.reduceEq, not_true_eq_false, not_false_eq_true, decide_true, decide_false, f32s, f32o, f33s, f33o, e32s, e32o, e33s, e33o] at h); (try (exfalso; omega))))
    | ((with_reducible apply EvP.kof); exact rfl; exact rfl; dsimp only [mc_pad, mc_exp])
  show GoP _ _ _ _
  rw [show (0 : Int32) = iI ((0 : Nat) : Int) by rw [iI_lit]; rfl]
  exact hl
end
