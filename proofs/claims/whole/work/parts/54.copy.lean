abbrev liI : List Nat := [3202, 3203]
abbrev liA : List Nat := [34, 35, 36, 37, 38, 39, 40, 41, 42]
theorem iI_ltp {a b : Int} (h : (-2147483648 ≤ a ∧ a < 2147483648) ∧ -2147483648 ≤ b ∧ b < 2147483648) : (iI a < iI b) = (a < b) := propext (by rw [Int32.lt_iff_toInt_lt, iI_int h.1, iI_int h.2])
theorem cpy_at {f g : Nat → Int32} {m i : Nat} (h : i < m) : va_cpy f g 0 0 m i = f i := by
  unfold va_cpy
  rw [if_pos ⟨Nat.zero_le _, by omega⟩, Nat.zero_add, Nat.sub_zero]
section
variable {w : Bool} {T : tT} {M : kM}
set_option maxRecDepth 100000 in
set_option maxHeartbeats 8000000 in
theorem ct_copy {D : Nat} {σ : wS} (hD : 3 ≤ D) (hT : TOk T) (hX : TX T σ) : EvP D 68 [.ref 32, .ref 1] (xX w M σ) (fun R => ∃ σ', R = (none, xX w M σ', 0, 0) ∧ LX T σ' ∧ Fr liI [] liA [] σ σ') := by
  obtain ⟨D, rfl⟩ : ∃ D', D = D' + 1 := ⟨D - 1, by omega⟩
  have hn9 := hT.1
  have hc : (decide (¬ (0 : Int32) < 0 ∧ ¬ (0 : Int32) < 0 ∧ ¬ σ.1 102 < 0 ∧ (0 : Int32).toNatClampNeg + (σ.1 102).toNatClampNeg ≤ 9 ∧ (0 : Int32).toNatClampNeg + (σ.1 102).toNatClampNeg ≤ 9) && Nat.ble (mc_w []) 8) = true := by
    rw [hX.1, show (0 : Int32).toNatClampNeg = 0 by decide, k_cl (by omega), show Nat.ble (mc_w []) 8 = true by decide, Bool.and_true]
    refine decide_eq_true ⟨by decide, by decide, ?_, by omega, by omega⟩
    rw [iI_lit, iI_ltp (by omega)]
    omega
  have e0 : (0 : Int32).toNatClampNeg = 0 := by decide
  have en : (σ.1 102).toNatClampNeg = tN T := by
    rw [hX.1, k_cl (by omega)]
    omega
  refine EvP.kof (T := tb_X7_copy) rfl rfl ?_
  dsimp only [mc_pad, mc_exp]
  repeat' first
    | ((with_reducible apply GoP.k2); exact rfl; exact rfl; exact hc)
    | ((with_reducible apply GoP.k0); exact rfl; exact rfl)
    | ((with_reducible apply GoP.k1); exact rfl; exact rfl; all_goals (intro h; (try simp (disch := omega) only [jJ_lit, jJ_add, jJ_mul, iI_long, jJ_toI, l_lt, l_ge, l_gt, l_le, l_eq, l_ne, jJ_inj, k_ule, k_uln, iI_lit, iI_nat, iI_neg, iI_add, iI_sub, iI_mul, k_lt, k_ge, k_gt, k_le, k_eq, k_ne, k_cl, k_in, iI_inj, k_upe, k_upn, k_wue, k_wun, sI_1, sI_2, sI_3, sI_4, sJ_1, sJ_2, sJ_3, sJ_4, sA_1, sA_2, sA_3, sA_4, sB_1, sB_2, sB_3, sB_4, decide_eq_true_eq, decide_eq_false_iff_not, reduceCtorEq, Int.toNat_natCast, Bool.and_true, mc_tf, List.getD_cons_zero, List.getD_cons_succ, Int.reduceToNat, Int.reduceAdd, Int.reduceSub, Int.reduceMul, Int.reduceNeg, Int.reduceLT, Int.reduceLE, Int.reduceEq, not_true_eq_false, not_false_eq_true, decide_true, decide_false] at h); (try (exfalso; omega))))
    | ((with_reducible apply GoP.k2); exact rfl; exact rfl; focus ((simp (disch := omega) only [jJ_lit, jJ_add, jJ_mul, iI_long, jJ_toI, l_lt, l_ge, l_gt, l_le, l_eq, l_ne, jJ_inj, k_ule, k_uln, iI_lit, iI_nat, iI_neg, iI_add, iI_sub, iI_mul, k_lt, k_ge, k_gt, k_le, k_eq, k_ne, k_cl, k_in, iI_inj, k_upe, k_upn, k_wue, k_wun, sI_1, sI_2, sI_3, sI_4, sJ_1, sJ_2, sJ_3, sJ_4, sA_1, sA_2, sA_3, sA_4, sB_1, sB_2, sB_3, sB_4, decide_eq_true_eq, decide_eq_false_iff_not, reduceCtorEq, Int.toNat_natCast, Bool.and_true, mc_tf, List.getD_cons_zero, List.getD_cons_succ, Int.reduceToNat, Int.reduceAdd, Int.reduceSub, Int.reduceMul, Int.reduceNeg, Int.reduceLT, Int.reduceLE, Int.reduceEq, not_true_eq_false, not_false_eq_true, decide_true, decide_false]) <;> omega))
    | ((with_reducible apply GoP.k4); exact rfl; exact rfl; exact rfl; try dsimp only [Option.toList, List.cons_append, List.nil_append])
    | ((with_reducible apply GoP.k5); exact rfl; exact rfl)
    | ((with_reducible apply GoA.sw); all_goals (intro h; (try simp (disch := omega) only [jJ_lit, jJ_add, jJ_mul, iI_long, jJ_toI, l_lt, l_ge, l_gt, l_le, l_eq, l_ne, jJ_inj, k_ule, k_uln, iI_lit, iI_nat, iI_neg, iI_add, iI_sub, iI_mul, k_lt, k_ge, k_gt, k_le, k_eq, k_ne, k_cl, k_in, iI_inj, k_upe, k_upn, k_wue, k_wun, sI_1, sI_2, sI_3, sI_4, sJ_1, sJ_2, sJ_3, sJ_4, sA_1, sA_2, sA_3, sA_4, sB_1, sB_2, sB_3, sB_4, decide_eq_true_eq, decide_eq_false_iff_not, reduceCtorEq, Int.toNat_natCast, Bool.and_true, mc_tf, List.getD_cons_zero, List.getD_cons_succ, Int.reduceToNat, Int.reduceAdd, Int.reduceSub, Int.reduceMul, Int.reduceNeg, Int.reduceLT, Int.reduceLE, Int.reduceEq, not_true_eq_false, not_false_eq_true, decide_true, decide_false] at h); (try (exfalso; omega))))
    | ((with_reducible apply GoA.sw0))
    | ((with_reducible apply GoA.c); all_goals (intro h; (try simp (disch := omega) only [jJ_lit, jJ_add, jJ_mul, iI_long, jJ_toI, l_lt, l_ge, l_gt, l_le, l_eq, l_ne, jJ_inj, k_ule, k_uln, iI_lit, iI_nat, iI_neg, iI_add, iI_sub, iI_mul, k_lt, k_ge, k_gt, k_le, k_eq, k_ne, k_cl, k_in, iI_inj, k_upe, k_upn, k_wue, k_wun, sI_1, sI_2, sI_3, sI_4, sJ_1, sJ_2, sJ_3, sJ_4, sA_1, sA_2, sA_3, sA_4, sB_1, sB_2, sB_3, sB_4, decide_eq_true_eq, decide_eq_false_iff_not, reduceCtorEq, Int.toNat_natCast, Bool.and_true, mc_tf, List.getD_cons_zero, List.getD_cons_succ, Int.reduceToNat, Int.reduceAdd, Int.reduceSub, Int.reduceMul, Int.reduceNeg, Int.reduceLT, Int.reduceLE, Int.reduceEq, not_true_eq_false, not_false_eq_true, decide_true, decide_false] at h); (try (exfalso; omega))))
  rw [e0, en]
  obtain ⟨σ1, hσ1⟩ : ∃ σ1, σ1 = sA (sA (sA (sA (sA (sA (sA (sA (sI σ 3202 (σ.1 102)) 34 (va_cpy (σ.2.2.1 3) (σ.2.2.1 34) 0 0 (tN T))) 35 (va_cpy (σ.2.2.1 4) (σ.2.2.1 35) 0 0 (tN T))) 36 (va_cpy (σ.2.2.1 5) (σ.2.2.1 36) 0 0 (tN T))) 37 (va_cpy (σ.2.2.1 6) (σ.2.2.1 37) 0 0 (tN T))) 38 (va_cpy (σ.2.2.1 7) (σ.2.2.1 38) 0 0 (tN T))) 39 (va_cpy (σ.2.2.1 8) (σ.2.2.1 39) 0 0 (tN T))) 40 (va_cpy (σ.2.2.1 9) (σ.2.2.1 40) 0 0 (tN T))) 41 (va_cpy (σ.2.2.1 10) (σ.2.2.1 41) 0 0 (tN T)) := ⟨_, rfl⟩
  have hF1 : Fr liI [] liA [] σ σ1 := by
    rw [hσ1]
    exact ((((((((Fr.sI (by decide)).tr (Fr.sA (by decide))).tr (Fr.sA (by decide))).tr (Fr.sA (by decide))).tr (Fr.sA (by decide))).tr (Fr.sA (by decide))).tr (Fr.sA (by decide))).tr (Fr.sA (by decide))).tr (Fr.sA (by decide))
  have hX1 : TX T σ1 := hX.fr hF1 (by decide)
  have r34 : σ1.2.2.1 34 = va_cpy (σ.2.2.1 3) (σ.2.2.1 34) 0 0 (tN T) := by rw [hσ1]; rfl
  have r35 : σ1.2.2.1 35 = va_cpy (σ.2.2.1 4) (σ.2.2.1 35) 0 0 (tN T) := by rw [hσ1]; rfl
  have r36 : σ1.2.2.1 36 = va_cpy (σ.2.2.1 5) (σ.2.2.1 36) 0 0 (tN T) := by rw [hσ1]; rfl
  have r37 : σ1.2.2.1 37 = va_cpy (σ.2.2.1 6) (σ.2.2.1 37) 0 0 (tN T) := by rw [hσ1]; rfl
  have r38 : σ1.2.2.1 38 = va_cpy (σ.2.2.1 7) (σ.2.2.1 38) 0 0 (tN T) := by rw [hσ1]; rfl
  have r39 : σ1.2.2.1 39 = va_cpy (σ.2.2.1 8) (σ.2.2.1 39) 0 0 (tN T) := by rw [hσ1]; rfl
  have r40 : σ1.2.2.1 40 = va_cpy (σ.2.2.1 9) (σ.2.2.1 40) 0 0 (tN T) := by rw [hσ1]; rfl
  have r41 : σ1.2.2.1 41 = va_cpy (σ.2.2.1 10) (σ.2.2.1 41) 0 0 (tN T) := by rw [hσ1]; rfl
  have h3202 : σ1.1 3202 = σ.1 102 := by rw [hσ1]; rfl
  have hcr := ct_copyRest (w := w) (M := M) (D := D) (by omega) hT hX1
  rw [hσ1] at hcr
  refine GoP.kc rfl hcr ?_
  rintro R ⟨σ2, rfl, h42, h3203, hF2⟩
  rw [← hσ1] at hF2
  dsimp only [Option.toList, List.cons_append, List.nil_append]
  repeat' first
    | ((with_reducible apply GoP.k0); exact rfl; exact rfl)
    | ((with_reducible apply GoP.k1); exact rfl; exact rfl; all_goals (intro h; (try simp (disch := omega) only [jJ_lit, jJ_add, jJ_mul, iI_long, jJ_toI, l_lt, l_ge, l_gt, l_le, l_eq, l_ne, jJ_inj, k_ule, k_uln, iI_lit, iI_nat, iI_neg, iI_add, iI_sub, iI_mul, k_lt, k_ge, k_gt, k_le, k_eq, k_ne, k_cl, k_in, iI_inj, k_upe, k_upn, k_wue, k_wun, sI_1, sI_2, sI_3, sI_4, sJ_1, sJ_2, sJ_3, sJ_4, sA_1, sA_2, sA_3, sA_4, sB_1, sB_2, sB_3, sB_4, decide_eq_true_eq, decide_eq_false_iff_not, reduceCtorEq, Int.toNat_natCast, Bool.and_true, mc_tf, List.getD_cons_zero, List.getD_cons_succ, Int.reduceToNat, Int.reduceAdd, Int.reduceSub, Int.reduceMul, Int.reduceNeg, Int.reduceLT, Int.reduceLE, Int.reduceEq, not_true_eq_false, not_false_eq_true, decide_true, decide_false] at h); (try (exfalso; omega))))
    | ((with_reducible apply GoP.k2); exact rfl; exact rfl; focus ((simp (disch := omega) only [jJ_lit, jJ_add, jJ_mul, iI_long, jJ_toI, l_lt, l_ge, l_gt, l_le, l_eq, l_ne, jJ_inj, k_ule, k_uln, iI_lit, iI_nat, iI_neg, iI_add, iI_sub, iI_mul, k_lt, k_ge, k_gt, k_le, k_eq, k_ne, k_cl, k_in, iI_inj, k_upe, k_upn, k_wue, k_wun, sI_1, sI_2, sI_3, sI_4, sJ_1, sJ_2, sJ_3, sJ_4, sA_1, sA_2, sA_3, sA_4, sB_1, sB_2, sB_3, sB_4, decide_eq_true_eq, decide_eq_false_iff_not, reduceCtorEq, Int.toNat_natCast, Bool.and_true, mc_tf, List.getD_cons_zero, List.getD_cons_succ, Int.reduceToNat, Int.reduceAdd, Int.reduceSub, Int.reduceMul, Int.reduceNeg, Int.reduceLT, Int.reduceLE, Int.reduceEq, not_true_eq_false, not_false_eq_true, decide_true, decide_false]) <;> omega))
    | ((with_reducible apply GoP.k4); exact rfl; exact rfl; exact rfl; try dsimp only [Option.toList, List.cons_append, List.nil_append])
    | ((with_reducible apply GoP.k5); exact rfl; exact rfl)
    | ((with_reducible apply GoA.sw); all_goals (intro h; (try simp (disch := omega) only [jJ_lit, jJ_add, jJ_mul, iI_long, jJ_toI, l_lt, l_ge, l_gt, l_le, l_eq, l_ne, jJ_inj, k_ule, k_uln, iI_lit, iI_nat, iI_neg, iI_add, iI_sub, iI_mul, k_lt, k_ge, k_gt, k_le, k_eq, k_ne, k_cl, k_in, iI_inj, k_upe, k_upn, k_wue, k_wun, sI_1, sI_2, sI_3, sI_4, sJ_1, sJ_2, sJ_3, sJ_4, sA_1, sA_2, sA_3, sA_4, sB_1, sB_2, sB_3, sB_4, decide_eq_true_eq, decide_eq_false_iff_not, reduceCtorEq, Int.toNat_natCast, Bool.and_true, mc_tf, List.getD_cons_zero, List.getD_cons_succ, Int.reduceToNat, Int.reduceAdd, Int.reduceSub, Int.reduceMul, Int.reduceNeg, Int.reduceLT, Int.reduceLE, Int.reduceEq, not_true_eq_false, not_false_eq_true, decide_true, decide_false] at h); (try (exfalso; omega))))
    | ((with_reducible apply GoA.sw0))
    | ((with_reducible apply GoA.c); all_goals (intro h; (try simp (disch := omega) only [jJ_lit, jJ_add, jJ_mul, iI_long, jJ_toI, l_lt, l_ge, l_gt, l_le, l_eq, l_ne, jJ_inj, k_ule, k_uln, iI_lit, iI_nat, iI_neg, iI_add, iI_sub, iI_mul, k_lt, k_ge, k_gt, k_le, k_eq, k_ne, k_cl, k_in, iI_inj, k_upe, k_upn, k_wue, k_wun, sI_1, sI_2, sI_3, sI_4, sJ_1, sJ_2, sJ_3, sJ_4, sA_1, sA_2, sA_3, sA_4, sB_1, sB_2, sB_3, sB_4, decide_eq_true_eq, decide_eq_false_iff_not, reduceCtorEq, Int.toNat_natCast, Bool.and_true, mc_tf, List.getD_cons_zero, List.getD_cons_succ, Int.reduceToNat, Int.reduceAdd, Int.reduceSub, Int.reduceMul, Int.reduceNeg, Int.reduceLT, Int.reduceLE, Int.reduceEq, not_true_eq_false, not_false_eq_true, decide_true, decide_false] at h); (try (exfalso; omega))))
  refine ⟨σ2, rfl, ⟨(hF2.1 3202 (by decide)).trans (h3202.trans hX.1), h3203, fun i hi => ?_, h42⟩, hF1.tr (hF2.up (by decide))⟩
  rw [hF2.2.2.1 34 (by decide), hF2.2.2.1 35 (by decide), hF2.2.2.1 36 (by decide), hF2.2.2.1 37 (by decide), hF2.2.2.1 38 (by decide), hF2.2.2.1 39 (by decide), hF2.2.2.1 40 (by decide), hF2.2.2.1 41 (by decide), r34, r35, r36, r37, r38, r39, r40, r41]
  rw [cpy_at hi, cpy_at hi, cpy_at hi, cpy_at hi, cpy_at hi, cpy_at hi, cpy_at hi, cpy_at hi]
  exact hX.2.2.1 i hi
end
