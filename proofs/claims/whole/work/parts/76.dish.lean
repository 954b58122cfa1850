/-! Dishes. -/
def adV (a b c e what : Nat) : Nat := match what with
  | 0 => a
  | 1 => 1
  | 2 => b
  | 3 => c
  | 4 => e
  | 5 => 0
  | 6 => 10
  | _ => 12
def adT (T : tT) (a b c e : Nat) : tT := (tN T + 1, tP T, fun what i => if i = tN T then adV a b c e what else tV T what i, tB T)
theorem adT_e (T : tT) (a b c e what : Nat) : tV (adT T a b c e) what (tN T) = adV a b c e what := if_pos rfl
theorem adT_n (T : tT) (a b c e what : Nat) {i : Nat} (h : ¬ i = tN T) : tV (adT T a b c e) what i = tV T what i := if_neg h
theorem adT_ok {T : tT} (hT : TOk T) (hn : tN T < 9) {a b c e : Nat} (h : a ≤ 20 ∧ (1 ≤ b ∧ b ≤ 9) ∧ c ≤ 9 ∧ e ≤ 4) : TOk (adT T a b c e) := by
  obtain ⟨h1, h2, h3, h4⟩ := hT
  refine ⟨hn, h2, fun i hi => ?_, h4⟩
  have hi : i < tN T + 1 := hi
  by_cases hin : i = tN T
  · subst hin
    rw [adT_e, adT_e, adT_e, adT_e, adT_e, adT_e, adT_e, adT_e]
    exact ⟨h.1, (show 1 ≤ 9 by decide), h.2.1, h.2.2.1, h.2.2.2, (show 0 ≤ 1 by decide), (show 10 ≤ 99 by decide), (show 12 ≤ 12 by decide)⟩
  · rw [adT_n T a b c e 0 hin, adT_n T a b c e 1 hin, adT_n T a b c e 2 hin, adT_n T a b c e 3 hin, adT_n T a b c e 4 hin, adT_n T a b c e 5 hin, adT_n T a b c e 6 hin, adT_n T a b c e 7 hin]
    exact h3 i (by omega)
/-- what a new dish changes in the class -/
abbrev adA : List Nat := [3, 4, 5, 6, 7, 8, 9, 10]
section
variable {w : Bool} {T : tT} {M : kM} {σ μ : wS}
theorem upd2 (f : Nat → Int32) (k : Nat) (x y : Int32) : upd (upd f k x) k y = upd f k y := by
  funext j
  by_cases h : j = k
  · rw [k_upe h, k_upe h]
  · rw [k_upn h, k_upn h, k_upn h]
set_option maxRecDepth 100000 in
set_option maxHeartbeats 4000000 in
theorem cx_add {D a b c e : Nat} (hD : 1 ≤ D) (hT : TOk T) (hX : TX T σ) (hn : tN T < 9) : EvP D 96 [.ref 1, .int (iI (a : Int)), .int (iI (b : Int)), .int (iI (c : Int)), .int (iI (e : Int))] (xX w M σ) (fun R => ∃ σ', R = (some (.int (iI (tN T : Int))), xX w M σ', 0, 0) ∧ TX (adT T a b c e) σ' ∧ Fr [102] [] adA [] σ σ') := by
  obtain ⟨D, rfl⟩ : ∃ D', D = D' + 1 := ⟨D - 1, by omega⟩
  have h102 := hX.1
  have ecl : (σ.1 102).toNatClampNeg = tN T := by
    rw [h102, k_cl (by omega)]
    omega
  refine EvP.kof (T := tb_X9_add) rfl rfl ?_
  dsimp only [mc_pad, mc_exp]
  repeat' first
    | ((with_reducible apply GoP.k0); exact rfl; exact rfl)
    | ((with_reducible apply GoP.k1); exact rfl; exact rfl; all_goals (intro h; (try simp (disch := omega) only [jJ_lit, jJ_add, jJ_mul, iI_long, jJ_toI, l_lt, l_ge, l_gt, l_le, l_eq, l_ne, jJ_inj, k_ule, k_uln, iI_lit, iI_nat, iI_neg, iI_add, iI_sub, iI_mul, k_lt, k_ge, k_gt, k_le, k_eq, k_ne, k_cl, k_in, iI_inj, k_upe, k_upn, k_wue, k_wun, sI_1, sI_2, sI_3, sI_4, sJ_1, sJ_2, sJ_3, sJ_4, sA_1, sA_2, sA_3, sA_4, sB_1, sB_2, sB_3, sB_4, decide_eq_true_eq, decide_eq_false_iff_not, reduceCtorEq, Int.toNat_natCast, Bool.and_true, mc_tf, List.getD_cons_zero, List.getD_cons_succ, Int.reduceToNat, Int.reduceAdd, Int.reduceSub, Int.reduceMul, Int.reduceNeg, Int.reduceLT, Int.reduceLE, Int.reduceEq, not_true_eq_false, not_false_eq_true, decide_true, decide_false, h102, List.length_cons, List.length_nil] at h); (try (exfalso; omega))))
    | ((with_reducible apply GoP.k2); exact rfl; exact rfl; focus ((simp (disch := omega) only [jJ_lit, jJ_add, jJ_mul, iI_long, jJ_toI, l_lt, l_ge, l_gt, l_le, l_eq, l_ne, jJ_inj, k_ule, k_uln, iI_lit, iI_nat, iI_neg, iI_add, iI_sub, iI_mul, k_lt, k_ge, k_gt, k_le, k_eq, k_ne, k_cl, k_in, iI_inj, k_upe, k_upn, k_wue, k_wun, sI_1, sI_2, sI_3, sI_4, sJ_1, sJ_2, sJ_3, sJ_4, sA_1, sA_2, sA_3, sA_4, sB_1, sB_2, sB_3, sB_4, decide_eq_true_eq, decide_eq_false_iff_not, reduceCtorEq, Int.toNat_natCast, Bool.and_true, mc_tf, List.getD_cons_zero, List.getD_cons_succ, Int.reduceToNat, Int.reduceAdd, Int.reduceSub, Int.reduceMul, Int.reduceNeg, Int.reduceLT, Int.reduceLE, Int.reduceEq, not_true_eq_false, not_false_eq_true, decide_true, decide_false, h102, List.length_cons, List.length_nil]) <;> omega))
    | ((with_reducible apply GoP.k4); exact rfl; exact rfl; exact rfl; try dsimp only [Option.toList, List.cons_append, List.nil_append])
    | ((with_reducible apply GoP.k5); exact rfl; exact rfl)
    | ((with_reducible apply GoA.sw); all_goals (intro h; (try simp (disch := omega) only [jJ_lit, jJ_add, jJ_mul, iI_long, jJ_toI, l_lt, l_ge, l_gt, l_le, l_eq, l_ne, jJ_inj, k_ule, k_uln, iI_lit, iI_nat, iI_neg, iI_add, iI_sub, iI_mul, k_lt, k_ge, k_gt, k_le, k_eq, k_ne, k_cl, k_in, iI_inj, k_upe, k_upn, k_wue, k_wun, sI_1, sI_2, sI_3, sI_4, sJ_1, sJ_2, sJ_3, sJ_4, sA_1, sA_2, sA_3, sA_4, sB_1, sB_2, sB_3, sB_4, decide_eq_true_eq, decide_eq_false_iff_not, reduceCtorEq, Int.toNat_natCast, Bool.and_true, mc_tf, List.getD_cons_zero, List.getD_cons_succ, Int.reduceToNat, Int.reduceAdd, Int.reduceSub, Int.reduceMul, Int.reduceNeg, Int.reduceLT, Int.reduceLE, Int.reduceEq, not_true_eq_false, not_false_eq_true, decide_true, decide_false, h102, List.length_cons, List.length_nil] at h); (try (exfalso; omega))))
    | ((with_reducible apply GoA.sw0))
    | ((with_reducible apply GoA.c); all_goals (intro h; (try simp (disch := omega) only [jJ_lit, jJ_add, jJ_mul, iI_long, jJ_toI, l_lt, l_ge, l_gt, l_le, l_eq, l_ne, jJ_inj, k_ule, k_uln, iI_lit, iI_nat, iI_neg, iI_add, iI_sub, iI_mul, k_lt, k_ge, k_gt, k_le, k_eq, k_ne, k_cl, k_in, iI_inj, k_upe, k_upn, k_wue, k_wun, sI_1, sI_2, sI_3, sI_4, sJ_1, sJ_2, sJ_3, sJ_4, sA_1, sA_2, sA_3, sA_4, sB_1, sB_2, sB_3, sB_4, decide_eq_true_eq, decide_eq_false_iff_not, reduceCtorEq, Int.toNat_natCast, Bool.and_true, mc_tf, List.getD_cons_zero, List.getD_cons_succ, Int.reduceToNat, Int.reduceAdd, Int.reduceSub, Int.reduceMul, Int.reduceNeg, Int.reduceLT, Int.reduceLE, Int.reduceEq, not_true_eq_false, not_false_eq_true, decide_true, decide_false, h102, List.length_cons, List.length_nil] at h); (try (exfalso; omega))))
  refine ⟨sI (sA (sA (sA (sA (sA (sA (sA (sA σ 3 _) 4 _) 5 _) 6 _) 7 _) 8 _) 9 _) 10 _) 102 _, R_int ?_ rfl, ⟨?_, hX.2.1, fun i hi => ?_, hX.2.2.2⟩, ?_⟩
  · rw [h102, iI_lit, iI_add, iI_sub]
    congr 1
    omega
  · show σ.1 102 + 1 = iI ((tN T + 1 : Nat) : Int)
    rw [h102, iI_lit, iI_add]
    rfl
  · have hi : i < tN T + 1 := hi
    show upd (upd _ _ _) _ _ i = _ ∧ upd _ _ _ i = _ ∧ upd (upd _ _ _) _ _ i = _ ∧ upd (upd _ _ _) _ _ i = _ ∧ upd (upd _ _ _) _ _ i = _ ∧ upd _ _ _ i = _ ∧ upd _ _ _ i = _ ∧ upd _ _ _ i = _
    rw [ecl]
    by_cases hin : i = tN T
    · subst hin
      rw [adT_e, adT_e, adT_e, adT_e, adT_e, adT_e, adT_e, adT_e]
      rw [k_upe rfl, k_upe rfl, k_upe rfl, k_upe rfl, k_upe rfl, k_upe rfl, k_upe rfl, k_upe rfl]
      exact ⟨rfl, (by show _ = iI ((1 : Nat) : Int); decide), rfl, rfl, rfl, (by show _ = iI ((0 : Nat) : Int); decide), (by show _ = iI ((10 : Nat) : Int); decide), (by show _ = iI ((12 : Nat) : Int); decide)⟩
    · rw [adT_n T a b c e 0 hin, adT_n T a b c e 1 hin, adT_n T a b c e 2 hin, adT_n T a b c e 3 hin, adT_n T a b c e 4 hin, adT_n T a b c e 5 hin, adT_n T a b c e 6 hin, adT_n T a b c e 7 hin]
      rw [k_upn hin, k_upn hin, k_upn hin, k_upn hin, k_upn hin, k_upn hin, k_upn hin, k_upn hin, k_upn hin, k_upn hin, k_upn hin, k_upn hin]
      exact hX.2.2.1 i (by omega)
  · exact ((((((((Fr.sA (by decide)).tr (Fr.sA (by decide))).tr (Fr.sA (by decide))).tr (Fr.sA (by decide))).tr (Fr.sA (by decide))).tr (Fr.sA (by decide))).tr (Fr.sA (by decide))).tr (Fr.sA (by decide))).tr (Fr.sI (by decide))
set_option maxRecDepth 100000 in
set_option maxHeartbeats 4000000 in
theorem cm_add {D a b c e : Nat} (hD : 1 ≤ D) (hT : TOk T) (hM : TM T μ) (hn : tN T < 9) : EvP D 167 [.ref 0, .int (iI (a : Int)), .int (iI (b : Int)), .int (iI (c : Int)), .int (iI (e : Int))] (mkM μ) (fun R => ∃ μ', R = (some (.int (iI (tN T : Int))), mkM μ', 0, 0) ∧ TM (adT T a b c e) μ' ∧ Fr [1] [] [1] [] μ μ') := by
  obtain ⟨D, rfl⟩ : ∃ D', D = D' + 1 := ⟨D - 1, by omega⟩
  have h1 := hM.1
  refine EvP.kof (T := tb_X11_addDish) rfl rfl ?_
  dsimp only [mc_pad, mc_exp]
  repeat' first
    | ((with_reducible apply GoP.k0); exact rfl; exact rfl)
    | ((with_reducible apply GoP.k1); exact rfl; exact rfl; all_goals (intro h; (try simp (disch := omega) only [jJ_lit, jJ_add, jJ_mul, iI_long, jJ_toI, l_lt, l_ge, l_gt, l_le, l_eq, l_ne, jJ_inj, k_ule, k_uln, iI_lit, iI_nat, iI_neg, iI_add, iI_sub, iI_mul, k_lt, k_ge, k_gt, k_le, k_eq, k_ne, k_cl, k_in, iI_inj, k_upe, k_upn, k_wue, k_wun, sI_1, sI_2, sI_3, sI_4, sJ_1, sJ_2, sJ_3, sJ_4, sA_1, sA_2, sA_3, sA_4, sB_1, sB_2, sB_3, sB_4, decide_eq_true_eq, decide_eq_false_iff_not, reduceCtorEq, Int.toNat_natCast, Bool.and_true, mc_tf, List.getD_cons_zero, List.getD_cons_succ, Int.reduceToNat, Int.reduceAdd, Int.reduceSub, Int.reduceMul, Int.reduceNeg, Int.reduceLT, Int.reduceLE, Int.reduceEq, not_true_eq_false, not_false_eq_true, decide_true, decide_false, h1] at h); (try (exfalso; omega))))
    | ((with_reducible apply GoP.k2); exact rfl; exact rfl; focus ((simp (disch := omega) only [jJ_lit, jJ_add, jJ_mul, iI_long, jJ_toI, l_lt, l_ge, l_gt, l_le, l_eq, l_ne, jJ_inj, k_ule, k_uln, iI_lit, iI_nat, iI_neg, iI_add, iI_sub, iI_mul, k_lt, k_ge, k_gt, k_le, k_eq, k_ne, k_cl, k_in, iI_inj, k_upe, k_upn, k_wue, k_wun, sI_1, sI_2, sI_3, sI_4, sJ_1, sJ_2, sJ_3, sJ_4, sA_1, sA_2, sA_3, sA_4, sB_1, sB_2, sB_3, sB_4, decide_eq_true_eq, decide_eq_false_iff_not, reduceCtorEq, Int.toNat_natCast, Bool.and_true, mc_tf, List.getD_cons_zero, List.getD_cons_succ, Int.reduceToNat, Int.reduceAdd, Int.reduceSub, Int.reduceMul, Int.reduceNeg, Int.reduceLT, Int.reduceLE, Int.reduceEq, not_true_eq_false, not_false_eq_true, decide_true, decide_false, h1]) <;> omega))
    | ((with_reducible apply GoP.k4); exact rfl; exact rfl; exact rfl; try dsimp only [Option.toList, List.cons_append, List.nil_append])
    | ((with_reducible apply GoP.k5); exact rfl; exact rfl)
    | ((with_reducible apply GoA.sw); all_goals (intro h; (try simp (disch := omega) only [jJ_lit, jJ_add, jJ_mul, iI_long, jJ_toI, l_lt, l_ge, l_gt, l_le, l_eq, l_ne, jJ_inj, k_ule, k_uln, iI_lit, iI_nat, iI_neg, iI_add, iI_sub, iI_mul, k_lt, k_ge, k_gt, k_le, k_eq, k_ne, k_cl, k_in, iI_inj, k_upe, k_upn, k_wue, k_wun, sI_1, sI_2, sI_3, sI_4, sJ_1, sJ_2, sJ_3, sJ_4, sA_1, sA_2, sA_3, sA_4, sB_1, sB_2, sB_3, sB_4, decide_eq_true_eq, decide_eq_false_iff_not, reduceCtorEq, Int.toNat_natCast, Bool.and_true, mc_tf, List.getD_cons_zero, List.getD_cons_succ, Int.reduceToNat, Int.reduceAdd, Int.reduceSub, Int.reduceMul, Int.reduceNeg, Int.reduceLT, Int.reduceLE, Int.reduceEq, not_true_eq_false, not_false_eq_true, decide_true, decide_false, h1] at h); (try (exfalso; omega))))
    | ((with_reducible apply GoA.sw0))
    | ((with_reducible apply GoA.c); all_goals (intro h; (try simp (disch := omega) only [jJ_lit, jJ_add, jJ_mul, iI_long, jJ_toI, l_lt, l_ge, l_gt, l_le, l_eq, l_ne, jJ_inj, k_ule, k_uln, iI_lit, iI_nat, iI_neg, iI_add, iI_sub, iI_mul, k_lt, k_ge, k_gt, k_le, k_eq, k_ne, k_cl, k_in, iI_inj, k_upe, k_upn, k_wue, k_wun, sI_1, sI_2, sI_3, sI_4, sJ_1, sJ_2, sJ_3, sJ_4, sA_1, sA_2, sA_3, sA_4, sB_1, sB_2, sB_3, sB_4, decide_eq_true_eq, decide_eq_false_iff_not, reduceCtorEq, Int.toNat_natCast, Bool.and_true, mc_tf, List.getD_cons_zero, List.getD_cons_succ, Int.reduceToNat, Int.reduceAdd, Int.reduceSub, Int.reduceMul, Int.reduceNeg, Int.reduceLT, Int.reduceLE, Int.reduceEq, not_true_eq_false, not_false_eq_true, decide_true, decide_false, h1] at h); (try (exfalso; omega))))
  refine ⟨sI (sA μ 1 _) 1 _, R_int ?_ rfl, ⟨?_, hM.2.1, fun i hi => ?_, hM.2.2.2⟩, (Fr.sA (by decide)).tr (Fr.sI (by decide))⟩
  · rw [h1, iI_lit, iI_add, iI_sub]
    congr 1
    omega
  · show μ.1 1 + 1 = iI ((tN T + 1 : Nat) : Int)
    rw [h1, iI_lit, iI_add]
    rfl
  · have hi : i < tN T + 1 := hi
    have ec : ∀ k : Nat, k < 100 → (iI (k : Int) + μ.1 1).toNatClampNeg = k + tN T := by
      intro k hk
      rw [h1, iI_add, k_cl (by omega)]
      omega
    have e0 : (μ.1 1).toNatClampNeg = tN T := by
      rw [h1, k_cl (by omega)]
      omega
    have e9 : (9 + μ.1 1).toNatClampNeg = 9 + tN T := ec 9 (by decide)
    have e18 : (18 + μ.1 1).toNatClampNeg = 18 + tN T := ec 18 (by decide)
    have e27 : (27 + μ.1 1).toNatClampNeg = 27 + tN T := ec 27 (by decide)
    have e36 : (36 + μ.1 1).toNatClampNeg = 36 + tN T := ec 36 (by decide)
    have e45 : (45 + μ.1 1).toNatClampNeg = 45 + tN T := ec 45 (by decide)
    have e54 : (54 + μ.1 1).toNatClampNeg = 54 + tN T := ec 54 (by decide)
    have e63 : (63 + μ.1 1).toNatClampNeg = 63 + tN T := ec 63 (by decide)
    show upd (upd (upd (upd (upd (upd (upd (upd _ _ _) _ _) _ _) _ _) _ _) _ _) _ _) _ _ i = _ ∧ upd (upd (upd (upd (upd (upd (upd (upd _ _ _) _ _) _ _) _ _) _ _) _ _) _ _) _ _ (9 + i) = _ ∧ upd (upd (upd (upd (upd (upd (upd (upd _ _ _) _ _) _ _) _ _) _ _) _ _) _ _) _ _ (18 + i) = _ ∧ upd (upd (upd (upd (upd (upd (upd (upd _ _ _) _ _) _ _) _ _) _ _) _ _) _ _) _ _ (27 + i) = _ ∧ upd (upd (upd (upd (upd (upd (upd (upd _ _ _) _ _) _ _) _ _) _ _) _ _) _ _) _ _ (36 + i) = _ ∧ upd (upd (upd (upd (upd (upd (upd (upd _ _ _) _ _) _ _) _ _) _ _) _ _) _ _) _ _ (45 + i) = _ ∧ upd (upd (upd (upd (upd (upd (upd (upd _ _ _) _ _) _ _) _ _) _ _) _ _) _ _) _ _ (54 + i) = _ ∧ upd (upd (upd (upd (upd (upd (upd (upd _ _ _) _ _) _ _) _ _) _ _) _ _) _ _) _ _ (63 + i) = _
    rw [e0, e9, e18, e27, e36, e45, e54, e63]
    by_cases hin : i = tN T
    · subst hin
      rw [adT_e, adT_e, adT_e, adT_e, adT_e, adT_e, adT_e, adT_e]
      refine ⟨?_, ?_, ?_, ?_, ?_, ?_, ?_, ?_⟩
      all_goals simp (disch := omega) only [k_upe, k_upn]
      all_goals first | rfl | decide
    · rw [adT_n T a b c e 0 hin, adT_n T a b c e 1 hin, adT_n T a b c e 2 hin, adT_n T a b c e 3 hin, adT_n T a b c e 4 hin, adT_n T a b c e 5 hin, adT_n T a b c e 6 hin, adT_n T a b c e 7 hin]
      simp (disch := omega) only [k_upn]
      exact hM.2.2.1 i (by omega)
end
