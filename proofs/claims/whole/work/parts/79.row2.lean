section
variable {w : Bool} {M : kM} {σ μ : wS}
/-- a new row in both -/
theorem I_S.row {σ' μ' : wS} {s k n : Nat} (h : I_S σ μ) (hs : s < 6) (hk : k < 5) (hn : n ≤ 60) (h58 : σ'.2.2.1 58 = upd (σ.2.2.1 58) s 2) (h59 : σ'.2.2.1 59 = σ.2.2.1 59) (h60 : σ'.2.2.1 60 = upd (σ.2.2.1 60) s (iI (k : Int))) (h61 : σ'.2.2.1 61 = upd (σ.2.2.1 61) s (iI (n : Int))) (hz : ∀ i, 60 * s ≤ i → i < 60 * s + n → σ'.2.2.2 62 i = 0) (ho : ∀ i, ¬ (60 * s ≤ i ∧ i < 60 * s + n) → σ'.2.2.2 62 i = σ.2.2.2 62 i) (h32 : μ'.2.2.1 32 = upd (μ.2.2.1 32) s (iI (-2 - (k : Int)))) (h33 : μ'.2.2.1 33 = upd (μ.2.2.1 33) s (iI (n : Int))) (hz' : ∀ i, 60 * s ≤ i → i < 60 * s + 60 → μ'.2.2.2 34 i = 0) (ho' : ∀ i, ¬ (60 * s ≤ i ∧ i < 60 * s + 60) → μ'.2.2.2 34 i = μ.2.2.2 34 i) (hnb : σ'.1 5402 = σ.1 5402) : I_S σ' μ' := by
  intro t ht
  unfold I_S at h
  rw [h58, h59, h60, h61, h32, h33, hnb]
  by_cases hts : t = s
  · subst hts
    rw [k_upe rfl, k_upe rfl, k_upe rfl, k_upe rfl, k_upe rfl]
    refine Or.inr (Or.inr ⟨rfl, k, hk, (iI_nat k).symm, ?_, n, hn, (iI_nat n).symm, (iI_nat n).symm, fun j hj => ?_⟩)
    · rw [iI_nat, iI_lit, iI_neg, iI_sub]
    · rw [hz _ (by omega) (by omega), hz' _ (by omega) (by omega)]
  · rw [k_upn hts, k_upn hts, k_upn hts, k_upn hts, k_upn hts]
    rcases h t ht with h | h | ⟨a1, k', hk', a2, a3, N, hN, a4, a5, a6⟩
    · exact Or.inl h
    · exact Or.inr (Or.inl h)
    · refine Or.inr (Or.inr ⟨a1, k', hk', a2, a3, N, hN, a4, a5, fun j hj => ?_⟩)
      rw [ho _ (by omega), ho' _ (by omega)]
      exact a6 j hj
theorem I_Z.row {σ' : wS} {s k n : Nat} (h : I_Z σ) (hs : s < 6) (hn : n ≤ 60) (h58 : σ'.2.2.1 58 = upd (σ.2.2.1 58) s 2) (h60 : σ'.2.2.1 60 = upd (σ.2.2.1 60) s (iI (k : Int))) (h61 : σ'.2.2.1 61 = upd (σ.2.2.1 61) s (iI (n : Int))) (hz : ∀ i, 60 * s ≤ i → i < 60 * s + n → σ'.2.2.2 62 i = 0) (ho : ∀ i, ¬ (60 * s ≤ i ∧ i < 60 * s + n) → σ'.2.2.2 62 i = σ.2.2.2 62 i) : I_Z σ' := by
  intro t ht e58 e60 N hN e61 j hj
  rw [h58] at e58
  rw [h60] at e60
  rw [h61] at e61
  by_cases hts : t = s
  · rw [k_upe hts, iI_inj (by omega)] at e61
    rw [hz _ (by omega) (by omega)]
    exact ⟨0, by omega, by omega, jJ_lit 0⟩
  · rw [k_upn hts] at e58 e60 e61
    rw [ho _ (by omega)]
    exact h t ht e58 e60 N hN e61 j hj
set_option maxRecDepth 100000 in
set_option maxHeartbeats 4000000 in
theorem pr_row (a b c : Int32) (hS : I_S σ μ) : pS 150 269 [.int a, .int b, .int c] w M σ μ (fun σ' μ' => I_S σ' μ' ∧ (I_Z σ → I_Z σ') ∧ Fr [] [] [58, 60, 61] [62] σ σ' ∧ Fr [] [] [32, 33] [34] μ μ') := by
  obtain ⟨z, hz1, hz2, rfl⟩ := iI_ex a
  obtain ⟨y, hy1, hy2, rfl⟩ := iI_ex b
  obtain ⟨x, hx1, hx2, rfl⟩ := iI_ex c
  have same : ∀ σ' μ', σ' = σ → μ' = μ → I_S σ' μ' ∧ (I_Z σ → I_Z σ') ∧ Fr [] [] [58, 60, 61] [62] σ σ' ∧ Fr [] [] [32, 33] [34] μ μ' := fun σ' μ' e1 e2 => by
    rw [e1, e2]
    exact ⟨hS, fun h => h, Fr.rf, Fr.rf⟩
  by_cases hv : (0 ≤ z ∧ z < 6) ∧ (0 ≤ y ∧ y < 5) ∧ x ≤ 60
  · by_cases hx0 : 0 ≤ x
    · obtain ⟨s, rfl⟩ := Int.eq_ofNat_of_zero_le hv.1.1
      obtain ⟨k, rfl⟩ := Int.eq_ofNat_of_zero_le hv.2.1.1
      obtain ⟨n, rfl⟩ := Int.eq_ofNat_of_zero_le hx0
      have ecl : (iI (s : Int)).toNatClampNeg = s := by
        rw [k_cl (by omega)]
        omega
      refine pS_of (v := .int 1) (P1 := fun σ' => (σ'.2.2.1 58 = upd (σ.2.2.1 58) s 2 ∧ σ'.2.2.1 60 = upd (σ.2.2.1 60) s (iI (k : Int)) ∧ σ'.2.2.1 61 = upd (σ.2.2.1 61) s (iI (n : Int))) ∧ (∀ i, 60 * s ≤ i → i < 60 * s + n → σ'.2.2.2 62 i = 0) ∧ (∀ i, ¬ (60 * s ≤ i ∧ i < 60 * s + n) → σ'.2.2.2 62 i = σ.2.2.2 62 i) ∧ Fr [] [] [58, 60, 61] [62] σ σ') (P2 := fun μ' => (μ'.2.2.1 32 = upd (μ.2.2.1 32) s (iI (-2 - (k : Int))) ∧ μ'.2.2.1 33 = upd (μ.2.2.1 33) s (iI (n : Int))) ∧ (∀ i, 60 * s ≤ i → i < 60 * s + 60 → μ'.2.2.2 34 i = 0) ∧ (∀ i, ¬ (60 * s ≤ i ∧ i < 60 * s + 60) → μ'.2.2.2 34 i = μ.2.2.2 34 i) ∧ Fr [] [] [32, 33] [34] μ μ') ?_ ?_ (fun σ' μ' h1 h2 => ?_)
      · refine EvP.kof (T := tb_X10_row) rfl rfl ?_
        dsimp only [mc_pad, mc_exp]
        have hl := lx_row (w := w) (M := M) (D := 58) (s := s) (n := n) (x2 := iI (k : Int)) (σ0 := sA (sA (sA σ 58 (upd (σ.2.2.1 58) (iI (s : Int)).toNatClampNeg 2)) 60 (upd (σ.2.2.1 60) (iI (s : Int)).toNatClampNeg (iI (k : Int)))) 61 (upd (σ.2.2.1 61) (iI (s : Int)).toNatClampNeg (iI (n : Int)))) (by omega) (by omega) n 0 (sA (sA (sA σ 58 (upd (σ.2.2.1 58) (iI (s : Int)).toNatClampNeg 2)) 60 (upd (σ.2.2.1 60) (iI (s : Int)).toNatClampNeg (iI (k : Int)))) 61 (upd (σ.2.2.1 61) (iI (s : Int)).toNatClampNeg (iI (n : Int)))) (Nat.zero_add _) (fun i a b => by omega) (fun _ _ => rfl) Fr.rf
        repeat' first
          | ((with_reducible show GoP _ tb_X8_holdRow (24, _) _); refine Hold.of ?_)
          | ((with_reducible apply GoP.k0); exact rfl; exact rfl)
          | ((with_reducible apply GoP.k1); exact rfl; exact rfl; all_goals (intro h; (try simp (disch := omega) only [jJ_lit, jJ_add, jJ_mul, iI_long, jJ_toI, l_lt, l_ge, l_gt, l_le, l_eq, l_ne, jJ_inj, k_ule, k_uln, iI_lit, iI_nat, iI_neg, iI_add, iI_sub, iI_mul, k_lt, k_ge, k_gt, k_le, k_eq, k_ne, k_cl, k_in, iI_inj, k_upe, k_upn, k_wue, k_wun, sI_1, sI_2, sI_3, sI_4, sJ_1, sJ_2, sJ_3, sJ_4, sA_1, sA_2, sA_3, sA_4, sB_1, sB_2, sB_3, sB_4, decide_eq_true_eq, decide_eq_false_iff_not, reduceCtorEq, Int.toNat_natCast, Bool.and_true, mc_tf, List.getD_cons_zero, List.getD_cons_succ, Int.reduceToNat, Int.reduceAdd, Int.reduceSub, Int.reduceMul, Int.reduceNeg, Int.reduceLT, Int.reduceLE, Int.reduceEq, not_true_eq_false, not_false_eq_true, decide_true, decide_false] at h); (try (exfalso; omega))))
          | ((with_reducible apply GoP.k2); exact rfl; exact rfl; focus ((simp (disch := omega) only [jJ_lit, jJ_add, jJ_mul, iI_long, jJ_toI, l_lt, l_ge, l_gt, l_le, l_eq, l_ne, jJ_inj, k_ule, k_uln, iI_lit, iI_nat, iI_neg, iI_add, iI_sub, iI_mul, k_lt, k_ge, k_gt, k_le, k_eq, k_ne, k_cl, k_in, iI_inj, k_upe, k_upn, k_wue, k_wun, sI_1, sI_2, sI_3, sI_4, sJ_1, sJ_2, sJ_3, sJ_4, sA_1, sA_2, sA_3, sA_4, sB_1, sB_2, sB_3, sB_4, decide_eq_true_eq, decide_eq_false_iff_not, reduceCtorEq, Int.toNat_natCast, Bool.and_true, mc_tf, List.getD_cons_zero, List.getD_cons_succ, Int.reduceToNat, Int.reduceAdd, Int.reduceSub, Int.reduceMul, Int.reduceNeg, Int.reduceLT, Int.reduceLE, Int.reduceEq, not_true_eq_false, not_false_eq_true, decide_true, decide_false]) <;> omega))
          | ((with_reducible apply GoP.k3); exact rfl; exact rfl; exact rfl; exact rfl; dsimp only [mc_pad, mc_exp])
          | ((with_reducible apply GoP.k4); exact rfl; exact rfl; exact rfl; try dsimp only [Option.toList, List.cons_append, List.nil_append])
          | ((with_reducible apply GoP.k5); exact rfl; exact rfl)
          | ((with_reducible apply GoA.sw); all_goals (intro h; (try simp (disch := omega) only [jJ_lit, jJ_add, jJ_mul, iI_long, jJ_toI, l_lt, l_ge, l_gt, l_le, l_eq, l_ne, jJ_inj, k_ule, k_uln, iI_lit, iI_nat, iI_neg, iI_add, iI_sub, iI_mul, k_lt, k_ge, k_gt, k_le, k_eq, k_ne, k_cl, k_in, iI_inj, k_upe, k_upn, k_wue, k_wun, sI_1, sI_2, sI_3, sI_4, sJ_1, sJ_2, sJ_3, sJ_4, sA_1, sA_2, sA_3, sA_4, sB_1, sB_2, sB_3, sB_4, decide_eq_true_eq, decide_eq_false_iff_not, reduceCtorEq, Int.toNat_natCast, Bool.and_true, mc_tf, List.getD_cons_zero, List.getD_cons_succ, Int.reduceToNat, Int.reduceAdd, Int.reduceSub, Int.reduceMul, Int.reduceNeg, Int.reduceLT, Int.reduceLE, Int.reduceEq, not_true_eq_false, not_false_eq_true, decide_true, decide_false] at h); (try (exfalso; omega))))
          | ((with_reducible apply GoA.sw0))
          | ((with_reducible apply GoA.c); all_goals (intro h; (try simp (disch := omega) only [jJ_lit, jJ_add, jJ_mul, iI_long, jJ_toI, l_lt, l_ge, l_gt, l_le, l_eq, l_ne, jJ_inj, k_ule, k_uln, iI_lit, iI_nat, iI_neg, iI_add, iI_sub, iI_mul, k_lt, k_ge, k_gt, k_le, k_eq, k_ne, k_cl, k_in, iI_inj, k_upe, k_upn, k_wue, k_wun, sI_1, sI_2, sI_3, sI_4, sJ_1, sJ_2, sJ_3, sJ_4, sA_1, sA_2, sA_3, sA_4, sB_1, sB_2, sB_3, sB_4, decide_eq_true_eq, decide_eq_false_iff_not, reduceCtorEq, Int.toNat_natCast, Bool.and_true, mc_tf, List.getD_cons_zero, List.getD_cons_succ, Int.reduceToNat, Int.reduceAdd, Int.reduceSub, Int.reduceMul, Int.reduceNeg, Int.reduceLT, Int.reduceLE, Int.reduceEq, not_true_eq_false, not_false_eq_true, decide_true, decide_false] at h); (try (exfalso; omega))))
          | ((with_reducible apply EvP.kof); exact rfl; exact rfl; dsimp only [mc_pad, mc_exp])
        refine GoP.mono hl ?_
        rintro R ⟨σ1, rfl, g1, g2, g3⟩
        dsimp only [Option.toList, List.cons_append, List.nil_append]
        repeat' first
          | ((with_reducible apply GoP.k0); exact rfl; exact rfl)
          | ((with_reducible apply GoP.k1); exact rfl; exact rfl; all_goals (intro h; (try simp (disch := omega) only [jJ_lit, jJ_add, jJ_mul, iI_long, jJ_toI, l_lt, l_ge, l_gt, l_le, l_eq, l_ne, jJ_inj, k_ule, k_uln, iI_lit, iI_nat, iI_neg, iI_add, iI_sub, iI_mul, k_lt, k_ge, k_gt, k_le, k_eq, k_ne, k_cl, k_in, iI_inj, k_upe, k_upn, k_wue, k_wun, sI_1, sI_2, sI_3, sI_4, sJ_1, sJ_2, sJ_3, sJ_4, sA_1, sA_2, sA_3, sA_4, sB_1, sB_2, sB_3, sB_4, decide_eq_true_eq, decide_eq_false_iff_not, reduceCtorEq, Int.toNat_natCast, Bool.and_true, mc_tf, List.getD_cons_zero, List.getD_cons_succ, Int.reduceToNat, Int.reduceAdd, Int.reduceSub, Int.reduceMul, Int.reduceNeg, Int.reduceLT, Int.reduceLE, Int.reduceEq, not_true_eq_false, not_false_eq_true, decide_true, decide_false] at h); (try (exfalso; omega))))
          | ((with_reducible apply GoP.k2); exact rfl; exact rfl; focus ((simp (disch := omega) only [jJ_lit, jJ_add, jJ_mul, iI_long, jJ_toI, l_lt, l_ge, l_gt, l_le, l_eq, l_ne, jJ_inj, k_ule, k_uln, iI_lit, iI_nat, iI_neg, iI_add, iI_sub, iI_mul, k_lt, k_ge, k_gt, k_le, k_eq, k_ne, k_cl, k_in, iI_inj, k_upe, k_upn, k_wue, k_wun, sI_1, sI_2, sI_3, sI_4, sJ_1, sJ_2, sJ_3, sJ_4, sA_1, sA_2, sA_3, sA_4, sB_1, sB_2, sB_3, sB_4, decide_eq_true_eq, decide_eq_false_iff_not, reduceCtorEq, Int.toNat_natCast, Bool.and_true, mc_tf, List.getD_cons_zero, List.getD_cons_succ, Int.reduceToNat, Int.reduceAdd, Int.reduceSub, Int.reduceMul, Int.reduceNeg, Int.reduceLT, Int.reduceLE, Int.reduceEq, not_true_eq_false, not_false_eq_true, decide_true, decide_false]) <;> omega))
          | ((with_reducible apply GoP.k4); exact rfl; exact rfl; exact rfl; try dsimp only [Option.toList, List.cons_append, List.nil_append])
          | ((with_reducible apply GoP.k5); exact rfl; exact rfl)
          | ((with_reducible apply GoA.sw); all_goals (intro h; (try simp (disch := omega) only [jJ_lit, jJ_add, jJ_mul, iI_long, jJ_toI, l_lt, l_ge, l_gt, l_le, l_eq, l_ne, jJ_inj, k_ule, k_uln, iI_lit, iI_nat, iI_neg, iI_add, iI_sub, iI_mul, k_lt, k_ge, k_gt, k_le, k_eq, k_ne, k_cl, k_in, iI_inj, k_upe, k_upn, k_wue, k_wun, sI_1, sI_2, sI_3, sI_4, sJ_1, sJ_2, sJ_3, sJ_4, sA_1, sA_2, sA_3, sA_4, sB_1, sB_2, sB_3, sB_4, decide_eq_true_eq, decide_eq_false_iff_not, reduceCtorEq, Int.toNat_natCast, Bool.and_true, mc_tf, List.getD_cons_zero, List.getD_cons_succ, Int.reduceToNat, Int.reduceAdd, Int.reduceSub, Int.reduceMul, Int.reduceNeg, Int.reduceLT, Int.reduceLE, Int.reduceEq, not_true_eq_false, not_false_eq_true, decide_true, decide_false] at h); (try (exfalso; omega))))
          | ((with_reducible apply GoA.sw0))
          | ((with_reducible apply GoA.c); all_goals (intro h; (try simp (disch := omega) only [jJ_lit, jJ_add, jJ_mul, iI_long, jJ_toI, l_lt, l_ge, l_gt, l_le, l_eq, l_ne, jJ_inj, k_ule, k_uln, iI_lit, iI_nat, iI_neg, iI_add, iI_sub, iI_mul, k_lt, k_ge, k_gt, k_le, k_eq, k_ne, k_cl, k_in, iI_inj, k_upe, k_upn, k_wue, k_wun, sI_1, sI_2, sI_3, sI_4, sJ_1, sJ_2, sJ_3, sJ_4, sA_1, sA_2, sA_3, sA_4, sB_1, sB_2, sB_3, sB_4, decide_eq_true_eq, decide_eq_false_iff_not, reduceCtorEq, Int.toNat_natCast, Bool.and_true, mc_tf, List.getD_cons_zero, List.getD_cons_succ, Int.reduceToNat, Int.reduceAdd, Int.reduceSub, Int.reduceMul, Int.reduceNeg, Int.reduceLT, Int.reduceLE, Int.reduceEq, not_true_eq_false, not_false_eq_true, decide_true, decide_false] at h); (try (exfalso; omega))))
        refine ⟨σ1, rfl, ⟨?_, ?_, ?_⟩, g1, g2, (((Fr.sA (by decide)).tr (Fr.sA (by decide))).tr (Fr.sA (by decide))).tr (g3.up (by decide))⟩
        · rw [g3.2.2.1 58 (by decide)]
          show upd (σ.2.2.1 58) (iI (s : Int)).toNatClampNeg 2 = _
          rw [ecl]
        · rw [g3.2.2.1 60 (by decide)]
          show upd (σ.2.2.1 60) (iI (s : Int)).toNatClampNeg (iI (k : Int)) = _
          rw [ecl]
        · rw [g3.2.2.1 61 (by decide)]
          show upd (σ.2.2.1 61) (iI (s : Int)).toNatClampNeg (iI (n : Int)) = _
          rw [ecl]
      · refine EvP.kof (T := tb_X11_row) rfl rfl ?_
        dsimp only [mc_pad, mc_exp]
        have hl := lm_row (D := 59) (s := s) (x1 := iI (s : Int)) (x2 := iI (k : Int)) (x3 := iI (n : Int)) (μ0 := sA (sA μ 32 (upd (μ.2.2.1 32) (iI (s : Int)).toNatClampNeg (-2 - iI (k : Int)))) 33 (upd (μ.2.2.1 33) (iI (s : Int)).toNatClampNeg (iI (n : Int)))) (by omega) rfl 60 0 (sA (sA μ 32 (upd (μ.2.2.1 32) (iI (s : Int)).toNatClampNeg (-2 - iI (k : Int)))) 33 (upd (μ.2.2.1 33) (iI (s : Int)).toNatClampNeg (iI (n : Int)))) rfl (fun i a b => by omega) (fun _ _ => rfl) Fr.rf
        repeat' first
          | ((with_reducible show GoP _ tb_X11_row (54, _) _); refine Hold.of ?_)
          | ((with_reducible apply GoP.k0); exact rfl; exact rfl)
          | ((with_reducible apply GoP.k1); exact rfl; exact rfl; all_goals (intro h; (try simp (disch := omega) only [jJ_lit, jJ_add, jJ_mul, iI_long, jJ_toI, l_lt, l_ge, l_gt, l_le, l_eq, l_ne, jJ_inj, k_ule, k_uln, iI_lit, iI_nat, iI_neg, iI_add, iI_sub, iI_mul, k_lt, k_ge, k_gt, k_le, k_eq, k_ne, k_cl, k_in, iI_inj, k_upe, k_upn, k_wue, k_wun, sI_1, sI_2, sI_3, sI_4, sJ_1, sJ_2, sJ_3, sJ_4, sA_1, sA_2, sA_3, sA_4, sB_1, sB_2, sB_3, sB_4, decide_eq_true_eq, decide_eq_false_iff_not, reduceCtorEq, Int.toNat_natCast, Bool.and_true, mc_tf, List.getD_cons_zero, List.getD_cons_succ, Int.reduceToNat, Int.reduceAdd, Int.reduceSub, Int.reduceMul, Int.reduceNeg, Int.reduceLT, Int.reduceLE, Int.reduceEq, not_true_eq_false, not_false_eq_true, decide_true, decide_false] at h); (try (exfalso; omega))))
          | ((with_reducible apply GoP.k2); exact rfl; exact rfl; focus ((simp (disch := omega) only [jJ_lit, jJ_add, jJ_mul, iI_long, jJ_toI, l_lt, l_ge, l_gt, l_le, l_eq, l_ne, jJ_inj, k_ule, k_uln, iI_lit, iI_nat, iI_neg, iI_add, iI_sub, iI_mul, k_lt, k_ge, k_gt, k_le, k_eq, k_ne, k_cl, k_in, iI_inj, k_upe, k_upn, k_wue, k_wun, sI_1, sI_2, sI_3, sI_4, sJ_1, sJ_2, sJ_3, sJ_4, sA_1, sA_2, sA_3, sA_4, sB_1, sB_2, sB_3, sB_4, decide_eq_true_eq, decide_eq_false_iff_not, reduceCtorEq, Int.toNat_natCast, Bool.and_true, mc_tf, List.getD_cons_zero, List.getD_cons_succ, Int.reduceToNat, Int.reduceAdd, Int.reduceSub, Int.reduceMul, Int.reduceNeg, Int.reduceLT, Int.reduceLE, Int.reduceEq, not_true_eq_false, not_false_eq_true, decide_true, decide_false]) <;> omega))
          | ((with_reducible apply GoP.k3); exact rfl; exact rfl; exact rfl; exact rfl; dsimp only [mc_pad, mc_exp])
          | ((with_reducible apply GoP.k4); exact rfl; exact rfl; exact rfl; try dsimp only [Option.toList, List.cons_append, List.nil_append])
          | ((with_reducible apply GoP.k5); exact rfl; exact rfl)
          | ((with_reducible apply GoA.sw); all_goals (intro h; (try simp (disch := omega) only [jJ_lit, jJ_add, jJ_mul, iI_long, jJ_toI, l_lt, l_ge, l_gt, l_le, l_eq, l_ne, jJ_inj, k_ule, k_uln, iI_lit, iI_nat, iI_neg, iI_add, iI_sub, iI_mul, k_lt, k_ge, k_gt, k_le, k_eq, k_ne, k_cl, k_in, iI_inj, k_upe, k_upn, k_wue, k_wun, sI_1, sI_2, sI_3, sI_4, sJ_1, sJ_2, sJ_3, sJ_4, sA_1, sA_2, sA_3, sA_4, sB_1, sB_2, sB_3, sB_4, decide_eq_true_eq, decide_eq_false_iff_not, reduceCtorEq, Int.toNat_natCast, Bool.and_true, mc_tf, List.getD_cons_zero, List.getD_cons_succ, Int.reduceToNat, Int.reduceAdd, Int.reduceSub, Int.reduceMul, Int.reduceNeg, Int.reduceLT, Int.reduceLE, Int.reduceEq, not_true_eq_false, not_false_eq_true, decide_true, decide_false] at h); (try (exfalso; omega))))
          | ((with_reducible apply GoA.sw0))
          | ((with_reducible apply GoA.c); all_goals (intro h; (try simp (disch := omega) only [jJ_lit, jJ_add, jJ_mul, iI_long, jJ_toI, l_lt, l_ge, l_gt, l_le, l_eq, l_ne, jJ_inj, k_ule, k_uln, iI_lit, iI_nat, iI_neg, iI_add, iI_sub, iI_mul, k_lt, k_ge, k_gt, k_le, k_eq, k_ne, k_cl, k_in, iI_inj, k_upe, k_upn, k_wue, k_wun, sI_1, sI_2, sI_3, sI_4, sJ_1, sJ_2, sJ_3, sJ_4, sA_1, sA_2, sA_3, sA_4, sB_1, sB_2, sB_3, sB_4, decide_eq_true_eq, decide_eq_false_iff_not, reduceCtorEq, Int.toNat_natCast, Bool.and_true, mc_tf, List.getD_cons_zero, List.getD_cons_succ, Int.reduceToNat, Int.reduceAdd, Int.reduceSub, Int.reduceMul, Int.reduceNeg, Int.reduceLT, Int.reduceLE, Int.reduceEq, not_true_eq_false, not_false_eq_true, decide_true, decide_false] at h); (try (exfalso; omega))))
          | ((with_reducible apply EvP.kof); exact rfl; exact rfl; dsimp only [mc_pad, mc_exp])
        show GoP _ _ _ _
        rw [show (60 : Int32) * iI (s : Int) = iI ((60 * s + 0 : Nat) : Int) by rw [iI_lit, iI_mul]; rfl]
        refine GoP.mono hl ?_
        rintro R ⟨μ1, rfl, g1, g2, g3⟩
        refine ⟨μ1, rfl, ⟨?_, ?_⟩, g1, g2, ((Fr.sA (by decide)).tr (Fr.sA (by decide))).tr (g3.up (by decide))⟩
        · rw [g3.2.2.1 32 (by decide), show iI (-2 - (k : Int)) = -2 - iI (k : Int) by rw [iI_lit, iI_neg, iI_sub]]
          show upd (μ.2.2.1 32) (iI (s : Int)).toNatClampNeg (-2 - iI (k : Int)) = _
          rw [ecl]
        · rw [g3.2.2.1 33 (by decide)]
          show upd (μ.2.2.1 33) (iI (s : Int)).toNatClampNeg (iI (n : Int)) = _
          rw [ecl]
      · obtain ⟨⟨p1, p2, p3⟩, p4, p5, p6⟩ := h1
        obtain ⟨⟨q1, q2⟩, q3, q4, q5⟩ := h2
        exact ⟨hS.row (by omega) (by omega) (by omega) p1 (p6.2.2.1 59 (by decide)) p2 p3 p4 p5 q1 q2 q3 q4 (p6.1 5402 (by decide)), fun h => h.row (by omega) (by omega) p1 p2 p3 p4 p5, p6, q5⟩
    · refine pS_of (v := .int (-14)) (P1 := fun σ' => σ' = σ) (P2 := fun μ' => μ' = μ) ?_ ?_ same
      · refine EvP.kof (T := tb_X10_row) rfl rfl ?_
        dsimp only [mc_pad, mc_exp]
        repeat' first
          | ((with_reducible apply GoP.k0); exact rfl; exact rfl)
          | ((with_reducible apply GoP.k1); exact rfl; exact rfl; all_goals (intro h; (try simp (disch := omega) only [jJ_lit, jJ_add, jJ_mul, iI_long, jJ_toI, l_lt, l_ge, l_gt, l_le, l_eq, l_ne, jJ_inj, k_ule, k_uln, iI_lit, iI_nat, iI_neg, iI_add, iI_sub, iI_mul, k_lt, k_ge, k_gt, k_le, k_eq, k_ne, k_cl, k_in, iI_inj, k_upe, k_upn, k_wue, k_wun, sI_1, sI_2, sI_3, sI_4, sJ_1, sJ_2, sJ_3, sJ_4, sA_1, sA_2, sA_3, sA_4, sB_1, sB_2, sB_3, sB_4, decide_eq_true_eq, decide_eq_false_iff_not, reduceCtorEq, Int.toNat_natCast, Bool.and_true, mc_tf, List.getD_cons_zero, List.getD_cons_succ, Int.reduceToNat, Int.reduceAdd, Int.reduceSub, Int.reduceMul, Int.reduceNeg, Int.reduceLT, Int.reduceLE, Int.reduceEq, not_true_eq_false, not_false_eq_true, decide_true, decide_false] at h); (try (exfalso; omega))))
          | ((with_reducible apply GoP.k2); exact rfl; exact rfl; focus ((simp (disch := omega) only [jJ_lit, jJ_add, jJ_mul, iI_long, jJ_toI, l_lt, l_ge, l_gt, l_le, l_eq, l_ne, jJ_inj, k_ule, k_uln, iI_lit, iI_nat, iI_neg, iI_add, iI_sub, iI_mul, k_lt, k_ge, k_gt, k_le, k_eq, k_ne, k_cl, k_in, iI_inj, k_upe, k_upn, k_wue, k_wun, sI_1, sI_2, sI_3, sI_4, sJ_1, sJ_2, sJ_3, sJ_4, sA_1, sA_2, sA_3, sA_4, sB_1, sB_2, sB_3, sB_4, decide_eq_true_eq, decide_eq_false_iff_not, reduceCtorEq, Int.toNat_natCast, Bool.and_true, mc_tf, List.getD_cons_zero, List.getD_cons_succ, Int.reduceToNat, Int.reduceAdd, Int.reduceSub, Int.reduceMul, Int.reduceNeg, Int.reduceLT, Int.reduceLE, Int.reduceEq, not_true_eq_false, not_false_eq_true, decide_true, decide_false]) <;> omega))
          | ((with_reducible apply GoP.k3); exact rfl; exact rfl; exact rfl; exact rfl; dsimp only [mc_pad, mc_exp])
          | ((with_reducible apply GoP.k4); exact rfl; exact rfl; exact rfl; try dsimp only [Option.toList, List.cons_append, List.nil_append])
          | ((with_reducible apply GoP.k5); exact rfl; exact rfl)
          | ((with_reducible apply GoA.sw); all_goals (intro h; (try simp (disch := omega) only [jJ_lit, jJ_add, jJ_mul, iI_long, jJ_toI, l_lt, l_ge, l_gt, l_le, l_eq, l_ne, jJ_inj, k_ule, k_uln, iI_lit, iI_nat, iI_neg, iI_add, iI_sub, iI_mul, k_lt, k_ge, k_gt, k_le, k_eq, k_ne, k_cl, k_in, iI_inj, k_upe, k_upn, k_wue, k_wun, sI_1, sI_2, sI_3, sI_4, sJ_1, sJ_2, sJ_3, sJ_4, sA_1, sA_2, sA_3, sA_4, sB_1, sB_2, sB_3, sB_4, decide_eq_true_eq, decide_eq_false_iff_not, reduceCtorEq, Int.toNat_natCast, Bool.and_true, mc_tf, List.getD_cons_zero, List.getD_cons_succ, Int.reduceToNat, Int.reduceAdd, Int.reduceSub, Int.reduceMul, Int.reduceNeg, Int.reduceLT, Int.reduceLE, Int.reduceEq, not_true_eq_false, not_false_eq_true, decide_true, decide_false] at h); (try (exfalso; omega))))
          | ((with_reducible apply GoA.sw0))
          | ((with_reducible apply GoA.c); all_goals (intro h; (try simp (disch := omega) only [jJ_lit, jJ_add, jJ_mul, iI_long, jJ_toI, l_lt, l_ge, l_gt, l_le, l_eq, l_ne, jJ_inj, k_ule, k_uln, iI_lit, iI_nat, iI_neg, iI_add, iI_sub, iI_mul, k_lt, k_ge, k_gt, k_le, k_eq, k_ne, k_cl, k_in, iI_inj, k_upe, k_upn, k_wue, k_wun, sI_1, sI_2, sI_3, sI_4, sJ_1, sJ_2, sJ_3, sJ_4, sA_1, sA_2, sA_3, sA_4, sB_1, sB_2, sB_3, sB_4, decide_eq_true_eq, decide_eq_false_iff_not, reduceCtorEq, Int.toNat_natCast, Bool.and_true, mc_tf, List.getD_cons_zero, List.getD_cons_succ, Int.reduceToNat, Int.reduceAdd, Int.reduceSub, Int.reduceMul, Int.reduceNeg, Int.reduceLT, Int.reduceLE, Int.reduceEq, not_true_eq_false, not_false_eq_true, decide_true, decide_false] at h); (try (exfalso; omega))))
          | ((with_reducible apply EvP.kof); exact rfl; exact rfl; dsimp only [mc_pad, mc_exp])
        all_goals exact ⟨σ, rfl, rfl⟩
      · refine EvP.kof (T := tb_X11_row) rfl rfl ?_
        dsimp only [mc_pad, mc_exp]
        repeat' first
          | ((with_reducible apply GoP.k0); exact rfl; exact rfl)
          | ((with_reducible apply GoP.k1); exact rfl; exact rfl; all_goals (intro h; (try simp (disch := omega) only [jJ_lit, jJ_add, jJ_mul, iI_long, jJ_toI, l_lt, l_ge, l_gt, l_le, l_eq, l_ne, jJ_inj, k_ule, k_uln, iI_lit, iI_nat, iI_neg, iI_add, iI_sub, iI_mul, k_lt, k_ge, k_gt, k_le, k_eq, k_ne, k_cl, k_in, iI_inj, k_upe, k_upn, k_wue, k_wun, sI_1, sI_2, sI_3, sI_4, sJ_1, sJ_2, sJ_3, sJ_4, sA_1, sA_2, sA_3, sA_4, sB_1, sB_2, sB_3, sB_4, decide_eq_true_eq, decide_eq_false_iff_not, reduceCtorEq, Int.toNat_natCast, Bool.and_true, mc_tf, List.getD_cons_zero, List.getD_cons_succ, Int.reduceToNat, Int.reduceAdd, Int.reduceSub, Int.reduceMul, Int.reduceNeg, Int.reduceLT, Int.reduceLE, Int.reduceEq, not_true_eq_false, not_false_eq_true, decide_true, decide_false] at h); (try (exfalso; omega))))
          | ((with_reducible apply GoP.k2); exact rfl; exact rfl; focus ((simp (disch := omega) only [jJ_lit, jJ_add, jJ_mul, iI_long, jJ_toI, l_lt, l_ge, l_gt, l_le, l_eq, l_ne, jJ_inj, k_ule, k_uln, iI_lit, iI_nat, iI_neg, iI_add, iI_sub, iI_mul, k_lt, k_ge, k_gt, k_le, k_eq, k_ne, k_cl, k_in, iI_inj, k_upe, k_upn, k_wue, k_wun, sI_1, sI_2, sI_3, sI_4, sJ_1, sJ_2, sJ_3, sJ_4, sA_1, sA_2, sA_3, sA_4, sB_1, sB_2, sB_3, sB_4, decide_eq_true_eq, decide_eq_false_iff_not, reduceCtorEq, Int.toNat_natCast, Bool.and_true, mc_tf, List.getD_cons_zero, List.getD_cons_succ, Int.reduceToNat, Int.reduceAdd, Int.reduceSub, Int.reduceMul, Int.reduceNeg, Int.reduceLT, Int.reduceLE, Int.reduceEq, not_true_eq_false, not_false_eq_true, decide_true, decide_false]) <;> omega))
          | ((with_reducible apply GoP.k3); exact rfl; exact rfl; exact rfl; exact rfl; dsimp only [mc_pad, mc_exp])
          | ((with_reducible apply GoP.k4); exact rfl; exact rfl; exact rfl; try dsimp only [Option.toList, List.cons_append, List.nil_append])
          | ((with_reducible apply GoP.k5); exact rfl; exact rfl)
          | ((with_reducible apply GoA.sw); all_goals (intro h; (try simp (disch := omega) only [jJ_lit, jJ_add, jJ_mul, iI_long, jJ_toI, l_lt, l_ge, l_gt, l_le, l_eq, l_ne, jJ_inj, k_ule, k_uln, iI_lit, iI_nat, iI_neg, iI_add, iI_sub, iI_mul, k_lt, k_ge, k_gt, k_le, k_eq, k_ne, k_cl, k_in, iI_inj, k_upe, k_upn, k_wue, k_wun, sI_1, sI_2, sI_3, sI_4, sJ_1, sJ_2, sJ_3, sJ_4, sA_1, sA_2, sA_3, sA_4, sB_1, sB_2, sB_3, sB_4, decide_eq_true_eq, decide_eq_false_iff_not, reduceCtorEq, Int.toNat_natCast, Bool.and_true, mc_tf, List.getD_cons_zero, List.getD_cons_succ, Int.reduceToNat, Int.reduceAdd, Int.reduceSub, Int.reduceMul, Int.reduceNeg, Int.reduceLT, Int.reduceLE, Int.reduceEq, not_true_eq_false, not_false_eq_true, decide_true, decide_false] at h); (try (exfalso; omega))))
          | ((with_reducible apply GoA.sw0))
          | ((with_reducible apply GoA.c); all_goals (intro h; (try simp (disch := omega) only [jJ_lit, jJ_add, jJ_mul, iI_long, jJ_toI, l_lt, l_ge, l_gt, l_le, l_eq, l_ne, jJ_inj, k_ule, k_uln, iI_lit, iI_nat, iI_neg, iI_add, iI_sub, iI_mul, k_lt, k_ge, k_gt, k_le, k_eq, k_ne, k_cl, k_in, iI_inj, k_upe, k_upn, k_wue, k_wun, sI_1, sI_2, sI_3, sI_4, sJ_1, sJ_2, sJ_3, sJ_4, sA_1, sA_2, sA_3, sA_4, sB_1, sB_2, sB_3, sB_4, decide_eq_true_eq, decide_eq_false_iff_not, reduceCtorEq, Int.toNat_natCast, Bool.and_true, mc_tf, List.getD_cons_zero, List.getD_cons_succ, Int.reduceToNat, Int.reduceAdd, Int.reduceSub, Int.reduceMul, Int.reduceNeg, Int.reduceLT, Int.reduceLE, Int.reduceEq, not_true_eq_false, not_false_eq_true, decide_true, decide_false] at h); (try (exfalso; omega))))
          | ((with_reducible apply EvP.kof); exact rfl; exact rfl; dsimp only [mc_pad, mc_exp])
        all_goals exact ⟨μ, rfl, rfl⟩
  · refine pS_of (v := .int (-1)) (P1 := fun σ' => σ' = σ) (P2 := fun μ' => μ' = μ) ?_ ?_ same
    · refine EvP.kof (T := tb_X10_row) rfl rfl ?_
      dsimp only [mc_pad, mc_exp]
      repeat' first
        | ((with_reducible apply GoP.k0); exact rfl; exact rfl)
        | ((with_reducible apply GoP.k1); exact rfl; exact rfl; all_goals (intro h; (try simp (disch := omega) only [jJ_lit, jJ_add, jJ_mul, iI_long, jJ_toI, l_lt, l_ge, l_gt, l_le, l_eq, l_ne, jJ_inj, k_ule, k_uln, iI_lit, iI_nat, iI_neg, iI_add, iI_sub, iI_mul, k_lt, k_ge, k_gt, k_le, k_eq, k_ne, k_cl, k_in, iI_inj, k_upe, k_upn, k_wue, k_wun, sI_1, sI_2, sI_3, sI_4, sJ_1, sJ_2, sJ_3, sJ_4, sA_1, sA_2, sA_3, sA_4, sB_1, sB_2, sB_3, sB_4, decide_eq_true_eq, decide_eq_false_iff_not, reduceCtorEq, Int.toNat_natCast, Bool.and_true, mc_tf, List.getD_cons_zero, List.getD_cons_succ, Int.reduceToNat, Int.reduceAdd, Int.reduceSub, Int.reduceMul, Int.reduceNeg, Int.reduceLT, Int.reduceLE, Int.reduceEq, not_true_eq_false, not_false_eq_true, decide_true, decide_false] at h); (try (exfalso; omega))))
        | ((with_reducible apply GoP.k2); exact rfl; exact rfl; focus ((simp (disch := omega) only [jJ_lit, jJ_add, jJ_mul, iI_long, jJ_toI, l_lt, l_ge, l_gt, l_le, l_eq, l_ne, jJ_inj, k_ule, k_uln, iI_lit, iI_nat, iI_neg, iI_add, iI_sub, iI_mul, k_lt, k_ge, k_gt, k_le, k_eq, k_ne, k_cl, k_in, iI_inj, k_upe, k_upn, k_wue, k_wun, sI_1, sI_2, sI_3, sI_4, sJ_1, sJ_2, sJ_3, sJ_4, sA_1, sA_2, sA_3, sA_4, sB_1, sB_2, sB_3, sB_4, decide_eq_true_eq, decide_eq_false_iff_not, reduceCtorEq, Int.toNat_natCast, Bool.and_true, mc_tf, List.getD_cons_zero, List.getD_cons_succ, Int.reduceToNat, Int.reduceAdd, Int.reduceSub, Int.reduceMul, Int.reduceNeg, Int.reduceLT, Int.reduceLE, Int.reduceEq, not_true_eq_false, not_false_eq_true, decide_true, decide_false]) <;> omega))
        | ((with_reducible apply GoP.k3); exact rfl; exact rfl; exact rfl; exact rfl; dsimp only [mc_pad, mc_exp])
        | ((with_reducible apply GoP.k4); exact rfl; exact rfl; exact rfl; try dsimp only [Option.toList, List.cons_append, List.nil_append])
        | ((with_reducible apply GoP.k5); exact rfl; exact rfl)
        | ((with_reducible apply GoA.sw); all_goals (intro h; (try simp (disch := omega) only [jJ_lit, jJ_add, jJ_mul, iI_long, jJ_toI, l_lt, l_ge, l_gt, l_le, l_eq, l_ne, jJ_inj, k_ule, k_uln, iI_lit, iI_nat, iI_neg, iI_add, iI_sub, iI_mul, k_lt, k_ge, k_gt, k_le, k_eq, k_ne, k_cl, k_in, iI_inj, k_upe, k_upn, k_wue, k_wun, sI_1, sI_2, sI_3, sI_4, sJ_1, sJ_2, sJ_3, sJ_4, sA_1, sA_2, sA_3, sA_4, sB_1, sB_2, sB_3, sB_4, decide_eq_true_eq, decide_eq_false_iff_not, reduceCtorEq, Int.toNat_natCast, Bool.and_true, mc_tf, List.getD_cons_zero, List.getD_cons_succ, Int.reduceToNat, Int.reduceAdd, Int.reduceSub, Int.reduceMul, Int.reduceNeg, Int.reduceLT, Int.reduceLE, Int.reduceEq, not_true_eq_false, not_false_eq_true, decide_true, decide_false] at h); (try (exfalso; omega))))
        | ((with_reducible apply GoA.sw0))
        | ((with_reducible apply GoA.c); all_goals (intro h; (try simp (disch := omega) only [jJ_lit, jJ_add, jJ_mul, iI_long, jJ_toI, l_lt, l_ge, l_gt, l_le, l_eq, l_ne, jJ_inj, k_ule, k_uln, iI_lit, iI_nat, iI_neg, iI_add, iI_sub, iI_mul, k_lt, k_ge, k_gt, k_le, k_eq, k_ne, k_cl, k_in, iI_inj, k_upe, k_upn, k_wue, k_wun, sI_1, sI_2, sI_3, sI_4, sJ_1, sJ_2, sJ_3, sJ_4, sA_1, sA_2, sA_3, sA_4, sB_1, sB_2, sB_3, sB_4, decide_eq_true_eq, decide_eq_false_iff_not, reduceCtorEq, Int.toNat_natCast, Bool.and_true, mc_tf, List.getD_cons_zero, List.getD_cons_succ, Int.reduceToNat, Int.reduceAdd, Int.reduceSub, Int.reduceMul, Int.reduceNeg, Int.reduceLT, Int.reduceLE, Int.reduceEq, not_true_eq_false, not_false_eq_true, decide_true, decide_false] at h); (try (exfalso; omega))))
        | ((with_reducible apply EvP.kof); exact rfl; exact rfl; dsimp only [mc_pad, mc_exp])
      all_goals exact ⟨σ, rfl, rfl⟩
    · refine EvP.kof (T := tb_X11_row) rfl rfl ?_
      dsimp only [mc_pad, mc_exp]
      repeat' first
        | ((with_reducible apply GoP.k0); exact rfl; exact rfl)
        | ((with_reducible apply GoP.k1); exact rfl; exact rfl; all_goals (intro h; (try simp (disch := omega) only [jJ_lit, jJ_add, jJ_mul, iI_long, jJ_toI, l_lt, l_ge, l_gt, l_le, l_eq, l_ne, jJ_inj, k_ule, k_uln, iI_lit, iI_nat, iI_neg, iI_add, iI_sub, iI_mul, k_lt, k_ge, k_gt, k_le, k_eq, k_ne, k_cl, k_in, iI_inj, k_upe, k_upn, k_wue, k_wun, sI_1, sI_2, sI_3, sI_4, sJ_1, sJ_2, sJ_3, sJ_4, sA_1, sA_2, sA_3, sA_4, sB_1, sB_2, sB_3, sB_4, decide_eq_true_eq, decide_eq_false_iff_not, reduceCtorEq, Int.toNat_natCast, Bool.and_true, mc_tf, List.getD_cons_zero, List.getD_cons_succ, Int.reduceToNat, Int.reduceAdd, Int.reduceSub, Int.reduceMul, Int.reduceNeg, Int.reduceLT, Int.reduceLE, Int.reduceEq, not_true_eq_false, not_false_eq_true, decide_true, decide_false] at h); (try (exfalso; omega))))
        | ((with_reducible apply GoP.k2); exact rfl; exact rfl; focus ((simp (disch := omega) only [jJ_lit, jJ_add, jJ_mul, iI_long, jJ_toI, l_lt, l_ge, l_gt, l_le, l_eq, l_ne, jJ_inj, k_ule, k_uln, iI_lit, iI_nat, iI_neg, iI_add, iI_sub, iI_mul, k_lt, k_ge, k_gt, k_le, k_eq, k_ne, k_cl, k_in, iI_inj, k_upe, k_upn, k_wue, k_wun, sI_1, sI_2, sI_3, sI_4, sJ_1, sJ_2, sJ_3, sJ_4, sA_1, sA_2, sA_3, sA_4, sB_1, sB_2, sB_3, sB_4, decide_eq_true_eq, decide_eq_false_iff_not, reduceCtorEq, Int.toNat_natCast, Bool.and_true, mc_tf, List.getD_cons_zero, List.getD_cons_succ, Int.reduceToNat, Int.reduceAdd, Int.reduceSub, Int.reduceMul, Int.reduceNeg, Int.reduceLT, Int.reduceLE, Int.reduceEq, not_true_eq_false, not_false_eq_true, decide_true, decide_false]) <;> omega))
        | ((with_reducible apply GoP.k3); exact rfl; exact rfl; exact rfl; exact rfl; dsimp only [mc_pad, mc_exp])
        | ((with_reducible apply GoP.k4); exact rfl; exact rfl; exact rfl; try dsimp only [Option.toList, List.cons_append, List.nil_append])
        | ((with_reducible apply GoP.k5); exact rfl; exact rfl)
        | ((with_reducible apply GoA.sw); all_goals (intro h; (try simp (disch := omega) only [jJ_lit, jJ_add, jJ_mul, iI_long, jJ_toI, l_lt, l_ge, l_gt, l_le, l_eq, l_ne, jJ_inj, k_ule, k_uln, iI_lit, iI_nat, iI_neg, iI_add, iI_sub, iI_mul, k_lt, k_ge, k_gt, k_le, k_eq, k_ne, k_cl, k_in, iI_inj, k_upe, k_upn, k_wue, k_wun, sI_1, sI_2, sI_3, sI_4, sJ_1, sJ_2, sJ_3, sJ_4, sA_1, sA_2, sA_3, sA_4, sB_1, sB_2, sB_3, sB_4, decide_eq_true_eq, decide_eq_false_iff_not, reduceCtorEq, Int.toNat_natCast, Bool.and_true, mc_tf, List.getD_cons_zero, List.getD_cons_succ, Int.reduceToNat, Int.reduceAdd, Int.reduceSub, Int.reduceMul, Int.reduceNeg, Int.reduceLT, Int.reduceLE, Int.reduceEq, not_true_eq_false, not_false_eq_true, decide_true, decide_false] at h); (try (exfalso; omega))))
        | ((with_reducible apply GoA.sw0))
        | ((with_reducible apply GoA.c); all_goals (intro h; (try simp (disch := omega) only [jJ_lit, jJ_add, jJ_mul, iI_long, jJ_toI, l_lt, l_ge, l_gt, l_le, l_eq, l_ne, jJ_inj, k_ule, k_uln, iI_lit, iI_nat, iI_neg, iI_add, iI_sub, iI_mul, k_lt, k_ge, k_gt, k_le, k_eq, k_ne, k_cl, k_in, iI_inj, k_upe, k_upn, k_wue, k_wun, sI_1, sI_2, sI_3, sI_4, sJ_1, sJ_2, sJ_3, sJ_4, sA_1, sA_2, sA_3, sA_4, sB_1, sB_2, sB_3, sB_4, decide_eq_true_eq, decide_eq_false_iff_not, reduceCtorEq, Int.toNat_natCast, Bool.and_true, mc_tf, List.getD_cons_zero, List.getD_cons_succ, Int.reduceToNat, Int.reduceAdd, Int.reduceSub, Int.reduceMul, Int.reduceNeg, Int.reduceLT, Int.reduceLE, Int.reduceEq, not_true_eq_false, not_false_eq_true, decide_true, decide_false] at h); (try (exfalso; omega))))
        | ((with_reducible apply EvP.kof); exact rfl; exact rfl; dsimp only [mc_pad, mc_exp])
      all_goals exact ⟨μ, rfl, rfl⟩
end
