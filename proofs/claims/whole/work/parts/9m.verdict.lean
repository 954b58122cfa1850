/-! The class's law, in force. -/
section
variable {M : kM} {C : Nat → Int × Int} {nm : Int → Int32} {F E : Nat → Nat}
/-- the marks of the law in force, in the class -/
def NM (w : Bool) (σ : wS) (F E : Nat → Nat) (m : Nat) : Prop := σ.1 (cwN (!w)) = iI (m : Int) ∧ ∀ j, j < m → σ.2.2.1 (cwF (!w)) j = iI (F j : Int) ∧ σ.2.2.1 (cwE (!w)) j = iI (E j : Int)
theorem NM.fr {w : Bool} {σ σ' : wS} {F E : Nat → Nat} {m : Nat} (h : NM w σ F E m) (hF : Fr [] [] [23, 24, 30, 31] [] σ σ') : NM w σ' F E m := by
  obtain ⟨h1, h2⟩ := h
  cases w
  · have h1 : σ.1 1806 = _ := h1
    have h2 : ∀ j, j < m → σ.2.2.1 21 j = _ ∧ σ.2.2.1 22 j = _ := h2
    rw [← hF.1 1806 (by decide)] at h1
    rw [← hF.2.2.1 21 (by decide), ← hF.2.2.1 22 (by decide)] at h2
    exact ⟨h1, h2⟩
  · have h1 : σ.1 2506 = _ := h1
    have h2 : ∀ j, j < m → σ.2.2.1 28 j = _ ∧ σ.2.2.1 29 j = _ := h2
    rw [← hF.1 2506 (by decide)] at h1
    rw [← hF.2.2.1 28 (by decide), ← hF.2.2.1 29 (by decide)] at h2
    exact ⟨h1, h2⟩
set_option maxRecDepth 100000 in
set_option maxHeartbeats 16000000 in
theorem lx_verd_true {D n m : Nat} {a b c d e f : Int32} {σ0 : wS} (hn : n ≤ 120) (hm : m ≤ 61) (hP : PW C n F E m) : ∀ (r i : Nat) (σ : wS) (x9 : Option Value) (from_ : Nat), i + r = m → from_ = (if i = 0 then 0 else E (i - 1)) → NC true σ C n → NN true σ nm → NM true σ F E m → Fr [] [] [24, 31] [] σ0 σ → GoP (D + 3) tb_X6_verdict (39, [some (.ref 16), some (.int a), some (.int b), some (.int c), some (.int d), some (.int e), some (.int f), some (.int (iI (from_ : Int))), some (.int (iI (i : Int))), x9], [], xX true M σ, 0, 0) (fun R => ∃ σ', R = (some (.int (fwV C nm F E r i from_)), xX true M σ', 0, 0) ∧ Fr [] [] [24, 31] [] σ0 σ') := by
  intro r
  induction r with
  | zero =>
    intro i σ x9 from_ hi hf hC hN hM hF
    obtain rfl : i = m := by omega
    have g1 : σ.1 2506 = iI (i : Int) := hM.1
    refine GoP.st1 rfl ?_
    repeat' first
      | ((with_reducible apply GoP.k0); exact rfl; exact rfl)
      | ((with_reducible apply GoP.k1); exact rfl; exact rfl; all_goals (intro h; (try simp (disch := omega) only [jJ_lit, jJ_add, jJ_mul, iI_long, jJ_toI, l_lt, l_ge, l_gt, l_le, l_eq, l_ne, jJ_inj, k_ule, k_uln, iI_lit, iI_nat, iI_neg, iI_add, iI_sub, iI_mul, k_lt, k_ge, k_gt, k_le, k_eq, k_ne, k_cl, k_in, iI_inj, k_upe, k_upn, k_wue, k_wun, sI_1, sI_2, sI_3, sI_4, sJ_1, sJ_2, sJ_3, sJ_4, sA_1, sA_2, sA_3, sA_4, sB_1, sB_2, sB_3, sB_4, decide_eq_true_eq, decide_eq_false_iff_not, reduceCtorEq, Int.toNat_natCast, Bool.and_true, mc_tf, List.getD_cons_zero, List.getD_cons_succ, Int.reduceToNat, Int.reduceAdd, Int.reduceSub, Int.reduceMul, Int.reduceNeg, Int.reduceLT, Int.reduceLE, Int.reduceEq, not_true_eq_false, not_false_eq_true, decide_true, decide_false, g1] at h); (try (exfalso; omega))))
      | ((with_reducible apply GoP.k2); exact rfl; exact rfl; focus ((simp (disch := omega) only [jJ_lit, jJ_add, jJ_mul, iI_long, jJ_toI, l_lt, l_ge, l_gt, l_le, l_eq, l_ne, jJ_inj, k_ule, k_uln, iI_lit, iI_nat, iI_neg, iI_add, iI_sub, iI_mul, k_lt, k_ge, k_gt, k_le, k_eq, k_ne, k_cl, k_in, iI_inj, k_upe, k_upn, k_wue, k_wun, sI_1, sI_2, sI_3, sI_4, sJ_1, sJ_2, sJ_3, sJ_4, sA_1, sA_2, sA_3, sA_4, sB_1, sB_2, sB_3, sB_4, decide_eq_true_eq, decide_eq_false_iff_not, reduceCtorEq, Int.toNat_natCast, Bool.and_true, mc_tf, List.getD_cons_zero, List.getD_cons_succ, Int.reduceToNat, Int.reduceAdd, Int.reduceSub, Int.reduceMul, Int.reduceNeg, Int.reduceLT, Int.reduceLE, Int.reduceEq, not_true_eq_false, not_false_eq_true, decide_true, decide_false, g1]) <;> omega))
      | ((with_reducible apply GoP.k4); exact rfl; exact rfl; exact rfl; try dsimp only [Option.toList, List.cons_append, List.nil_append])
      | ((with_reducible apply GoP.k5); exact rfl; exact rfl)
      | ((with_reducible apply GoA.sw); all_goals (intro h; (try simp (disch := omega) only [jJ_lit, jJ_add, jJ_mul, iI_long, jJ_toI, l_lt, l_ge, l_gt, l_le, l_eq, l_ne, jJ_inj, k_ule, k_uln, iI_lit, iI_nat, iI_neg, iI_add, iI_sub, iI_mul, k_lt, k_ge, k_gt, k_le, k_eq, k_ne, k_cl, k_in, iI_inj, k_upe, k_upn, k_wue, k_wun, sI_1, sI_2, sI_3, sI_4, sJ_1, sJ_2, sJ_3, sJ_4, sA_1, sA_2, sA_3, sA_4, sB_1, sB_2, sB_3, sB_4, decide_eq_true_eq, decide_eq_false_iff_not, reduceCtorEq, Int.toNat_natCast, Bool.and_true, mc_tf, List.getD_cons_zero, List.getD_cons_succ, Int.reduceToNat, Int.reduceAdd, Int.reduceSub, Int.reduceMul, Int.reduceNeg, Int.reduceLT, Int.reduceLE, Int.reduceEq, not_true_eq_false, not_false_eq_true, decide_true, decide_false, g1] at h); (try (exfalso; omega))))
      | ((with_reducible apply GoA.sw0))
      | ((with_reducible apply GoA.c); all_goals (intro h; (try simp (disch := omega) only [jJ_lit, jJ_add, jJ_mul, iI_long, jJ_toI, l_lt, l_ge, l_gt, l_le, l_eq, l_ne, jJ_inj, k_ule, k_uln, iI_lit, iI_nat, iI_neg, iI_add, iI_sub, iI_mul, k_lt, k_ge, k_gt, k_le, k_eq, k_ne, k_cl, k_in, iI_inj, k_upe, k_upn, k_wue, k_wun, sI_1, sI_2, sI_3, sI_4, sJ_1, sJ_2, sJ_3, sJ_4, sA_1, sA_2, sA_3, sA_4, sB_1, sB_2, sB_3, sB_4, decide_eq_true_eq, decide_eq_false_iff_not, reduceCtorEq, Int.toNat_natCast, Bool.and_true, mc_tf, List.getD_cons_zero, List.getD_cons_succ, Int.reduceToNat, Int.reduceAdd, Int.reduceSub, Int.reduceMul, Int.reduceNeg, Int.reduceLT, Int.reduceLE, Int.reduceEq, not_true_eq_false, not_false_eq_true, decide_true, decide_false, g1] at h); (try (exfalso; omega))))
    exact ⟨σ, R_int (iI_lit 0).symm rfl, hF⟩
  | succ r ih =>
    intro i σ x9 from_ hi hf hC hN hM hF
    have g1 : σ.1 2506 = iI (m : Int) := hM.1
    obtain ⟨g2, g3⟩ := hM.2 i (by omega)
    have g2 : σ.2.2.1 28 i = iI (F i : Int) := g2
    have g3 : σ.2.2.1 29 i = iI (E i : Int) := g3
    obtain ⟨⟨p1, p2⟩, p3, p4⟩ := hP i (by omega)
    rw [← hf] at p3
    have ei : (iI (i : Int)).toNatClampNeg = i := by
      rw [k_cl (by omega)]
      omega
    have g2c : σ.2.2.1 28 (iI (i : Int)).toNatClampNeg = iI (F i : Int) := by rw [ei, g2]
    have g3c : σ.2.2.1 29 (iI (i : Int)).toNatClampNeg = iI (E i : Int) := by rw [ei, g3]
    -- the second part
    have snd : ∀ (σ1 : wS), NC true σ1 C n → NN true σ1 nm → NM true σ1 F E m → Fr [] [] [24, 31] [] σ0 σ1 → fwV C nm F E (r + 1) i from_ = vAt C nm (F i) (E i) → GoP (D + 3) tb_X6_verdict (84, [some (.ref 16), some (.int a), some (.int b), some (.int c), some (.int d), some (.int e), some (.int f), some (.int (iI (from_ : Int))), some (.int (iI (i : Int))), some (.int (iI (F i : Int)))], [], xX true M σ1, 0, 0) (fun R => ∃ σ', R = (some (.int (fwV C nm F E (r + 1) i from_)), xX true M σ', 0, 0) ∧ Fr [] [] [24, 31] [] σ0 σ') := by
      intro σ1 q1 q2 q3 q4 q5
      obtain ⟨t2, t3⟩ := q3.2 i (by omega)
      have t3 : σ1.2.2.1 29 i = iI (E i : Int) := t3
      have t3c : σ1.2.2.1 29 (iI (i : Int)).toNatClampNeg = iI (E i : Int) := by rw [ei, t3]
      have hw := ct_work_true (M := M) (D := D + 3) (by omega) p1 hn p4 q1 q2
      rw [q5]
      repeat' first
        | ((with_reducible apply GoP.k0); exact rfl; exact rfl)
        | ((with_reducible apply GoP.k1); exact rfl; exact rfl; all_goals (intro h; (try simp (disch := omega) only [jJ_lit, jJ_add, jJ_mul, iI_long, jJ_toI, l_lt, l_ge, l_gt, l_le, l_eq, l_ne, jJ_inj, k_ule, k_uln, iI_lit, iI_nat, iI_neg, iI_add, iI_sub, iI_mul, k_lt, k_ge, k_gt, k_le, k_eq, k_ne, k_cl, k_in, iI_inj, k_upe, k_upn, k_wue, k_wun, sI_1, sI_2, sI_3, sI_4, sJ_1, sJ_2, sJ_3, sJ_4, sA_1, sA_2, sA_3, sA_4, sB_1, sB_2, sB_3, sB_4, decide_eq_true_eq, decide_eq_false_iff_not, reduceCtorEq, Int.toNat_natCast, Bool.and_true, mc_tf, List.getD_cons_zero, List.getD_cons_succ, Int.reduceToNat, Int.reduceAdd, Int.reduceSub, Int.reduceMul, Int.reduceNeg, Int.reduceLT, Int.reduceLE, Int.reduceEq, not_true_eq_false, not_false_eq_true, decide_true, decide_false] at h); (try (exfalso; omega))))
        | ((with_reducible apply GoP.k2); exact rfl; exact rfl; focus ((simp (disch := omega) only [jJ_lit, jJ_add, jJ_mul, iI_long, jJ_toI, l_lt, l_ge, l_gt, l_le, l_eq, l_ne, jJ_inj, k_ule, k_uln, iI_lit, iI_nat, iI_neg, iI_add, iI_sub, iI_mul, k_lt, k_ge, k_gt, k_le, k_eq, k_ne, k_cl, k_in, iI_inj, k_upe, k_upn, k_wue, k_wun, sI_1, sI_2, sI_3, sI_4, sJ_1, sJ_2, sJ_3, sJ_4, sA_1, sA_2, sA_3, sA_4, sB_1, sB_2, sB_3, sB_4, decide_eq_true_eq, decide_eq_false_iff_not, reduceCtorEq, Int.toNat_natCast, Bool.and_true, mc_tf, List.getD_cons_zero, List.getD_cons_succ, Int.reduceToNat, Int.reduceAdd, Int.reduceSub, Int.reduceMul, Int.reduceNeg, Int.reduceLT, Int.reduceLE, Int.reduceEq, not_true_eq_false, not_false_eq_true, decide_true, decide_false]) <;> omega))
        | ((with_reducible apply GoP.k4); exact rfl; exact rfl; exact rfl; try dsimp only [Option.toList, List.cons_append, List.nil_append])
        | ((with_reducible apply GoP.k5); exact rfl; exact rfl)
        | ((with_reducible apply GoA.sw); all_goals (intro h; (try simp (disch := omega) only [jJ_lit, jJ_add, jJ_mul, iI_long, jJ_toI, l_lt, l_ge, l_gt, l_le, l_eq, l_ne, jJ_inj, k_ule, k_uln, iI_lit, iI_nat, iI_neg, iI_add, iI_sub, iI_mul, k_lt, k_ge, k_gt, k_le, k_eq, k_ne, k_cl, k_in, iI_inj, k_upe, k_upn, k_wue, k_wun, sI_1, sI_2, sI_3, sI_4, sJ_1, sJ_2, sJ_3, sJ_4, sA_1, sA_2, sA_3, sA_4, sB_1, sB_2, sB_3, sB_4, decide_eq_true_eq, decide_eq_false_iff_not, reduceCtorEq, Int.toNat_natCast, Bool.and_true, mc_tf, List.getD_cons_zero, List.getD_cons_succ, Int.reduceToNat, Int.reduceAdd, Int.reduceSub, Int.reduceMul, Int.reduceNeg, Int.reduceLT, Int.reduceLE, Int.reduceEq, not_true_eq_false, not_false_eq_true, decide_true, decide_false] at h); (try (exfalso; omega))))
        | ((with_reducible apply GoA.sw0))
        | ((with_reducible apply GoA.c); all_goals (intro h; (try simp (disch := omega) only [jJ_lit, jJ_add, jJ_mul, iI_long, jJ_toI, l_lt, l_ge, l_gt, l_le, l_eq, l_ne, jJ_inj, k_ule, k_uln, iI_lit, iI_nat, iI_neg, iI_add, iI_sub, iI_mul, k_lt, k_ge, k_gt, k_le, k_eq, k_ne, k_cl, k_in, iI_inj, k_upe, k_upn, k_wue, k_wun, sI_1, sI_2, sI_3, sI_4, sJ_1, sJ_2, sJ_3, sJ_4, sA_1, sA_2, sA_3, sA_4, sB_1, sB_2, sB_3, sB_4, decide_eq_true_eq, decide_eq_false_iff_not, reduceCtorEq, Int.toNat_natCast, Bool.and_true, mc_tf, List.getD_cons_zero, List.getD_cons_succ, Int.reduceToNat, Int.reduceAdd, Int.reduceSub, Int.reduceMul, Int.reduceNeg, Int.reduceLT, Int.reduceLE, Int.reduceEq, not_true_eq_false, not_false_eq_true, decide_true, decide_false] at h); (try (exfalso; omega))))
      rw [t3c]
      refine GoP.kc rfl (hw) ?_
      rintro R ⟨σ2, rfl, b1⟩
      dsimp only [Option.toList, List.cons_append, List.nil_append]
      repeat' first
        | ((with_reducible apply GoP.k0); exact rfl; exact rfl)
        | ((with_reducible apply GoP.k1); exact rfl; exact rfl; all_goals (intro h; (try simp (disch := omega) only [jJ_lit, jJ_add, jJ_mul, iI_long, jJ_toI, l_lt, l_ge, l_gt, l_le, l_eq, l_ne, jJ_inj, k_ule, k_uln, iI_lit, iI_nat, iI_neg, iI_add, iI_sub, iI_mul, k_lt, k_ge, k_gt, k_le, k_eq, k_ne, k_cl, k_in, iI_inj, k_upe, k_upn, k_wue, k_wun, sI_1, sI_2, sI_3, sI_4, sJ_1, sJ_2, sJ_3, sJ_4, sA_1, sA_2, sA_3, sA_4, sB_1, sB_2, sB_3, sB_4, decide_eq_true_eq, decide_eq_false_iff_not, reduceCtorEq, Int.toNat_natCast, Bool.and_true, mc_tf, List.getD_cons_zero, List.getD_cons_succ, Int.reduceToNat, Int.reduceAdd, Int.reduceSub, Int.reduceMul, Int.reduceNeg, Int.reduceLT, Int.reduceLE, Int.reduceEq, not_true_eq_false, not_false_eq_true, decide_true, decide_false] at h); (try (exfalso; omega))))
        | ((with_reducible apply GoP.k2); exact rfl; exact rfl; focus ((simp (disch := omega) only [jJ_lit, jJ_add, jJ_mul, iI_long, jJ_toI, l_lt, l_ge, l_gt, l_le, l_eq, l_ne, jJ_inj, k_ule, k_uln, iI_lit, iI_nat, iI_neg, iI_add, iI_sub, iI_mul, k_lt, k_ge, k_gt, k_le, k_eq, k_ne, k_cl, k_in, iI_inj, k_upe, k_upn, k_wue, k_wun, sI_1, sI_2, sI_3, sI_4, sJ_1, sJ_2, sJ_3, sJ_4, sA_1, sA_2, sA_3, sA_4, sB_1, sB_2, sB_3, sB_4, decide_eq_true_eq, decide_eq_false_iff_not, reduceCtorEq, Int.toNat_natCast, Bool.and_true, mc_tf, List.getD_cons_zero, List.getD_cons_succ, Int.reduceToNat, Int.reduceAdd, Int.reduceSub, Int.reduceMul, Int.reduceNeg, Int.reduceLT, Int.reduceLE, Int.reduceEq, not_true_eq_false, not_false_eq_true, decide_true, decide_false]) <;> omega))
        | ((with_reducible apply GoP.k4); exact rfl; exact rfl; exact rfl; try dsimp only [Option.toList, List.cons_append, List.nil_append])
        | ((with_reducible apply GoP.k5); exact rfl; exact rfl)
        | ((with_reducible apply GoA.sw); all_goals (intro h; (try simp (disch := omega) only [jJ_lit, jJ_add, jJ_mul, iI_long, jJ_toI, l_lt, l_ge, l_gt, l_le, l_eq, l_ne, jJ_inj, k_ule, k_uln, iI_lit, iI_nat, iI_neg, iI_add, iI_sub, iI_mul, k_lt, k_ge, k_gt, k_le, k_eq, k_ne, k_cl, k_in, iI_inj, k_upe, k_upn, k_wue, k_wun, sI_1, sI_2, sI_3, sI_4, sJ_1, sJ_2, sJ_3, sJ_4, sA_1, sA_2, sA_3, sA_4, sB_1, sB_2, sB_3, sB_4, decide_eq_true_eq, decide_eq_false_iff_not, reduceCtorEq, Int.toNat_natCast, Bool.and_true, mc_tf, List.getD_cons_zero, List.getD_cons_succ, Int.reduceToNat, Int.reduceAdd, Int.reduceSub, Int.reduceMul, Int.reduceNeg, Int.reduceLT, Int.reduceLE, Int.reduceEq, not_true_eq_false, not_false_eq_true, decide_true, decide_false] at h); (try (exfalso; omega))))
        | ((with_reducible apply GoA.sw0))
        | ((with_reducible apply GoA.c); all_goals (intro h; (try simp (disch := omega) only [jJ_lit, jJ_add, jJ_mul, iI_long, jJ_toI, l_lt, l_ge, l_gt, l_le, l_eq, l_ne, jJ_inj, k_ule, k_uln, iI_lit, iI_nat, iI_neg, iI_add, iI_sub, iI_mul, k_lt, k_ge, k_gt, k_le, k_eq, k_ne, k_cl, k_in, iI_inj, k_upe, k_upn, k_wue, k_wun, sI_1, sI_2, sI_3, sI_4, sJ_1, sJ_2, sJ_3, sJ_4, sA_1, sA_2, sA_3, sA_4, sB_1, sB_2, sB_3, sB_4, decide_eq_true_eq, decide_eq_false_iff_not, reduceCtorEq, Int.toNat_natCast, Bool.and_true, mc_tf, List.getD_cons_zero, List.getD_cons_succ, Int.reduceToNat, Int.reduceAdd, Int.reduceSub, Int.reduceMul, Int.reduceNeg, Int.reduceLT, Int.reduceLE, Int.reduceEq, not_true_eq_false, not_false_eq_true, decide_true, decide_false] at h); (try (exfalso; omega))))
      exact ⟨σ2, rfl, q4.tr b1⟩
    by_cases hff : F i = from_
    · have ev : fwV C nm F E (r + 1) i from_ = vAt C nm (F i) (E i) := if_pos (Or.inl hff)
      have hs := snd σ hC hN hM hF ev
      rw [← g2c] at hs
      refine GoP.st1 rfl ?_
      repeat' first
        | ((with_reducible show GoP _ _ (84, _) _); refine Hold.of ?_)
        | ((with_reducible apply GoP.k0); exact rfl; exact rfl)
        | ((with_reducible apply GoP.k1); exact rfl; exact rfl; all_goals (intro h; (try simp (disch := omega) only [jJ_lit, jJ_add, jJ_mul, iI_long, jJ_toI, l_lt, l_ge, l_gt, l_le, l_eq, l_ne, jJ_inj, k_ule, k_uln, iI_lit, iI_nat, iI_neg, iI_add, iI_sub, iI_mul, k_lt, k_ge, k_gt, k_le, k_eq, k_ne, k_cl, k_in, iI_inj, k_upe, k_upn, k_wue, k_wun, sI_1, sI_2, sI_3, sI_4, sJ_1, sJ_2, sJ_3, sJ_4, sA_1, sA_2, sA_3, sA_4, sB_1, sB_2, sB_3, sB_4, decide_eq_true_eq, decide_eq_false_iff_not, reduceCtorEq, Int.toNat_natCast, Bool.and_true, mc_tf, List.getD_cons_zero, List.getD_cons_succ, Int.reduceToNat, Int.reduceAdd, Int.reduceSub, Int.reduceMul, Int.reduceNeg, Int.reduceLT, Int.reduceLE, Int.reduceEq, not_true_eq_false, not_false_eq_true, decide_true, decide_false, g1, g2] at h); (try (exfalso; omega))))
        | ((with_reducible apply GoP.k2); exact rfl; exact rfl; focus ((simp (disch := omega) only [jJ_lit, jJ_add, jJ_mul, iI_long, jJ_toI, l_lt, l_ge, l_gt, l_le, l_eq, l_ne, jJ_inj, k_ule, k_uln, iI_lit, iI_nat, iI_neg, iI_add, iI_sub, iI_mul, k_lt, k_ge, k_gt, k_le, k_eq, k_ne, k_cl, k_in, iI_inj, k_upe, k_upn, k_wue, k_wun, sI_1, sI_2, sI_3, sI_4, sJ_1, sJ_2, sJ_3, sJ_4, sA_1, sA_2, sA_3, sA_4, sB_1, sB_2, sB_3, sB_4, decide_eq_true_eq, decide_eq_false_iff_not, reduceCtorEq, Int.toNat_natCast, Bool.and_true, mc_tf, List.getD_cons_zero, List.getD_cons_succ, Int.reduceToNat, Int.reduceAdd, Int.reduceSub, Int.reduceMul, Int.reduceNeg, Int.reduceLT, Int.reduceLE, Int.reduceEq, not_true_eq_false, not_false_eq_true, decide_true, decide_false, g1, g2]) <;> omega))
        | ((with_reducible apply GoP.k4); exact rfl; exact rfl; exact rfl; try dsimp only [Option.toList, List.cons_append, List.nil_append])
        | ((with_reducible apply GoP.k5); exact rfl; exact rfl)
        | ((with_reducible apply GoA.sw); all_goals (intro h; (try simp (disch := omega) only [jJ_lit, jJ_add, jJ_mul, iI_long, jJ_toI, l_lt, l_ge, l_gt, l_le, l_eq, l_ne, jJ_inj, k_ule, k_uln, iI_lit, iI_nat, iI_neg, iI_add, iI_sub, iI_mul, k_lt, k_ge, k_gt, k_le, k_eq, k_ne, k_cl, k_in, iI_inj, k_upe, k_upn, k_wue, k_wun, sI_1, sI_2, sI_3, sI_4, sJ_1, sJ_2, sJ_3, sJ_4, sA_1, sA_2, sA_3, sA_4, sB_1, sB_2, sB_3, sB_4, decide_eq_true_eq, decide_eq_false_iff_not, reduceCtorEq, Int.toNat_natCast, Bool.and_true, mc_tf, List.getD_cons_zero, List.getD_cons_succ, Int.reduceToNat, Int.reduceAdd, Int.reduceSub, Int.reduceMul, Int.reduceNeg, Int.reduceLT, Int.reduceLE, Int.reduceEq, not_true_eq_false, not_false_eq_true, decide_true, decide_false, g1, g2] at h); (try (exfalso; omega))))
        | ((with_reducible apply GoA.sw0))
        | ((with_reducible apply GoA.c); all_goals (intro h; (try simp (disch := omega) only [jJ_lit, jJ_add, jJ_mul, iI_long, jJ_toI, l_lt, l_ge, l_gt, l_le, l_eq, l_ne, jJ_inj, k_ule, k_uln, iI_lit, iI_nat, iI_neg, iI_add, iI_sub, iI_mul, k_lt, k_ge, k_gt, k_le, k_eq, k_ne, k_cl, k_in, iI_inj, k_upe, k_upn, k_wue, k_wun, sI_1, sI_2, sI_3, sI_4, sJ_1, sJ_2, sJ_3, sJ_4, sA_1, sA_2, sA_3, sA_4, sB_1, sB_2, sB_3, sB_4, decide_eq_true_eq, decide_eq_false_iff_not, reduceCtorEq, Int.toNat_natCast, Bool.and_true, mc_tf, List.getD_cons_zero, List.getD_cons_succ, Int.reduceToNat, Int.reduceAdd, Int.reduceSub, Int.reduceMul, Int.reduceNeg, Int.reduceLT, Int.reduceLE, Int.reduceEq, not_true_eq_false, not_false_eq_true, decide_true, decide_false, g1, g2] at h); (try (exfalso; omega))))
      exact hs
    · have p3 : wfs C from_ (F i) := p3.elim (fun z => absurd z hff) id
      have p5 : from_ < F i := p3.1
      have hw := ct_work_true (M := M) (D := D + 3) (by omega) (Nat.le_trans p2 p1) hn p3 hC hN
      refine GoP.st1 rfl ?_
      repeat' first
        | ((with_reducible apply GoP.k0); exact rfl; exact rfl)
        | ((with_reducible apply GoP.k1); exact rfl; exact rfl; all_goals (intro h; (try simp (disch := omega) only [jJ_lit, jJ_add, jJ_mul, iI_long, jJ_toI, l_lt, l_ge, l_gt, l_le, l_eq, l_ne, jJ_inj, k_ule, k_uln, iI_lit, iI_nat, iI_neg, iI_add, iI_sub, iI_mul, k_lt, k_ge, k_gt, k_le, k_eq, k_ne, k_cl, k_in, iI_inj, k_upe, k_upn, k_wue, k_wun, sI_1, sI_2, sI_3, sI_4, sJ_1, sJ_2, sJ_3, sJ_4, sA_1, sA_2, sA_3, sA_4, sB_1, sB_2, sB_3, sB_4, decide_eq_true_eq, decide_eq_false_iff_not, reduceCtorEq, Int.toNat_natCast, Bool.and_true, mc_tf, List.getD_cons_zero, List.getD_cons_succ, Int.reduceToNat, Int.reduceAdd, Int.reduceSub, Int.reduceMul, Int.reduceNeg, Int.reduceLT, Int.reduceLE, Int.reduceEq, not_true_eq_false, not_false_eq_true, decide_true, decide_false, g1, g2] at h); (try (exfalso; omega))))
        | ((with_reducible apply GoP.k2); exact rfl; exact rfl; focus ((simp (disch := omega) only [jJ_lit, jJ_add, jJ_mul, iI_long, jJ_toI, l_lt, l_ge, l_gt, l_le, l_eq, l_ne, jJ_inj, k_ule, k_uln, iI_lit, iI_nat, iI_neg, iI_add, iI_sub, iI_mul, k_lt, k_ge, k_gt, k_le, k_eq, k_ne, k_cl, k_in, iI_inj, k_upe, k_upn, k_wue, k_wun, sI_1, sI_2, sI_3, sI_4, sJ_1, sJ_2, sJ_3, sJ_4, sA_1, sA_2, sA_3, sA_4, sB_1, sB_2, sB_3, sB_4, decide_eq_true_eq, decide_eq_false_iff_not, reduceCtorEq, Int.toNat_natCast, Bool.and_true, mc_tf, List.getD_cons_zero, List.getD_cons_succ, Int.reduceToNat, Int.reduceAdd, Int.reduceSub, Int.reduceMul, Int.reduceNeg, Int.reduceLT, Int.reduceLE, Int.reduceEq, not_true_eq_false, not_false_eq_true, decide_true, decide_false, g1, g2]) <;> omega))
        | ((with_reducible apply GoP.k4); exact rfl; exact rfl; exact rfl; try dsimp only [Option.toList, List.cons_append, List.nil_append])
        | ((with_reducible apply GoP.k5); exact rfl; exact rfl)
        | ((with_reducible apply GoA.sw); all_goals (intro h; (try simp (disch := omega) only [jJ_lit, jJ_add, jJ_mul, iI_long, jJ_toI, l_lt, l_ge, l_gt, l_le, l_eq, l_ne, jJ_inj, k_ule, k_uln, iI_lit, iI_nat, iI_neg, iI_add, iI_sub, iI_mul, k_lt, k_ge, k_gt, k_le, k_eq, k_ne, k_cl, k_in, iI_inj, k_upe, k_upn, k_wue, k_wun, sI_1, sI_2, sI_3, sI_4, sJ_1, sJ_2, sJ_3, sJ_4, sA_1, sA_2, sA_3, sA_4, sB_1, sB_2, sB_3, sB_4, decide_eq_true_eq, decide_eq_false_iff_not, reduceCtorEq, Int.toNat_natCast, Bool.and_true, mc_tf, List.getD_cons_zero, List.getD_cons_succ, Int.reduceToNat, Int.reduceAdd, Int.reduceSub, Int.reduceMul, Int.reduceNeg, Int.reduceLT, Int.reduceLE, Int.reduceEq, not_true_eq_false, not_false_eq_true, decide_true, decide_false, g1, g2] at h); (try (exfalso; omega))))
        | ((with_reducible apply GoA.sw0))
        | ((with_reducible apply GoA.c); all_goals (intro h; (try simp (disch := omega) only [jJ_lit, jJ_add, jJ_mul, iI_long, jJ_toI, l_lt, l_ge, l_gt, l_le, l_eq, l_ne, jJ_inj, k_ule, k_uln, iI_lit, iI_nat, iI_neg, iI_add, iI_sub, iI_mul, k_lt, k_ge, k_gt, k_le, k_eq, k_ne, k_cl, k_in, iI_inj, k_upe, k_upn, k_wue, k_wun, sI_1, sI_2, sI_3, sI_4, sJ_1, sJ_2, sJ_3, sJ_4, sA_1, sA_2, sA_3, sA_4, sB_1, sB_2, sB_3, sB_4, decide_eq_true_eq, decide_eq_false_iff_not, reduceCtorEq, Int.toNat_natCast, Bool.and_true, mc_tf, List.getD_cons_zero, List.getD_cons_succ, Int.reduceToNat, Int.reduceAdd, Int.reduceSub, Int.reduceMul, Int.reduceNeg, Int.reduceLT, Int.reduceLE, Int.reduceEq, not_true_eq_false, not_false_eq_true, decide_true, decide_false, g1, g2] at h); (try (exfalso; omega))))
      rw [g2c]
      refine GoP.kc rfl (hw) ?_
      rintro R ⟨σ2, rfl, b1⟩
      dsimp only [Option.toList, List.cons_append, List.nil_append]
      have q1 := hC.fr b1
      have q2 := hN.fr b1
      have q3 := hM.fr (b1.up (by decide))
      by_cases hv : vAt C nm from_ (F i) = 0
      · have c0 : mc_cond .eq (vAt C nm from_ (F i)) 0 = true := decide_eq_true hv
        have ev : fwV C nm F E (r + 1) i from_ = fwV C nm F E r (i + 1) (E i) := if_neg (fun z => z.elim hff (fun y => y hv))
        obtain ⟨t2, t3⟩ := q3.2 i (by omega)
        have t3 : σ2.2.2.1 29 i = iI (E i : Int) := t3
        have t3c : σ2.2.2.1 29 (iI (i : Int)).toNatClampNeg = iI (E i : Int) := by rw [ei, t3]
        have hq := ih (i + 1) σ2 (some (.int (iI (F i : Int)))) (E i) (by omega) (by rw [if_neg (by omega), Nat.add_sub_cancel]) q1 q2 q3 (hF.tr b1)
        rw [ev]
        repeat' first
          | ((with_reducible show GoP _ _ (39, _) _); refine Hold.of ?_)
          | refine GoP.brt rfl (by assumption) ?_
          | ((with_reducible apply GoP.k0); exact rfl; exact rfl)
          | ((with_reducible apply GoP.k1); exact rfl; exact rfl; all_goals (intro h; (try simp (disch := omega) only [jJ_lit, jJ_add, jJ_mul, iI_long, jJ_toI, l_lt, l_ge, l_gt, l_le, l_eq, l_ne, jJ_inj, k_ule, k_uln, iI_lit, iI_nat, iI_neg, iI_add, iI_sub, iI_mul, k_lt, k_ge, k_gt, k_le, k_eq, k_ne, k_cl, k_in, iI_inj, k_upe, k_upn, k_wue, k_wun, sI_1, sI_2, sI_3, sI_4, sJ_1, sJ_2, sJ_3, sJ_4, sA_1, sA_2, sA_3, sA_4, sB_1, sB_2, sB_3, sB_4, decide_eq_true_eq, decide_eq_false_iff_not, reduceCtorEq, Int.toNat_natCast, Bool.and_true, mc_tf, List.getD_cons_zero, List.getD_cons_succ, Int.reduceToNat, Int.reduceAdd, Int.reduceSub, Int.reduceMul, Int.reduceNeg, Int.reduceLT, Int.reduceLE, Int.reduceEq, not_true_eq_false, not_false_eq_true, decide_true, decide_false] at h); (try (exfalso; omega))))
          | ((with_reducible apply GoP.k2); exact rfl; exact rfl; focus ((simp (disch := omega) only [jJ_lit, jJ_add, jJ_mul, iI_long, jJ_toI, l_lt, l_ge, l_gt, l_le, l_eq, l_ne, jJ_inj, k_ule, k_uln, iI_lit, iI_nat, iI_neg, iI_add, iI_sub, iI_mul, k_lt, k_ge, k_gt, k_le, k_eq, k_ne, k_cl, k_in, iI_inj, k_upe, k_upn, k_wue, k_wun, sI_1, sI_2, sI_3, sI_4, sJ_1, sJ_2, sJ_3, sJ_4, sA_1, sA_2, sA_3, sA_4, sB_1, sB_2, sB_3, sB_4, decide_eq_true_eq, decide_eq_false_iff_not, reduceCtorEq, Int.toNat_natCast, Bool.and_true, mc_tf, List.getD_cons_zero, List.getD_cons_succ, Int.reduceToNat, Int.reduceAdd, Int.reduceSub, Int.reduceMul, Int.reduceNeg, Int.reduceLT, Int.reduceLE, Int.reduceEq, not_true_eq_false, not_false_eq_true, decide_true, decide_false]) <;> omega))
          | ((with_reducible apply GoP.k4); exact rfl; exact rfl; exact rfl; try dsimp only [Option.toList, List.cons_append, List.nil_append])
          | ((with_reducible apply GoP.k5); exact rfl; exact rfl)
          | ((with_reducible apply GoA.sw); all_goals (intro h; (try simp (disch := omega) only [jJ_lit, jJ_add, jJ_mul, iI_long, jJ_toI, l_lt, l_ge, l_gt, l_le, l_eq, l_ne, jJ_inj, k_ule, k_uln, iI_lit, iI_nat, iI_neg, iI_add, iI_sub, iI_mul, k_lt, k_ge, k_gt, k_le, k_eq, k_ne, k_cl, k_in, iI_inj, k_upe, k_upn, k_wue, k_wun, sI_1, sI_2, sI_3, sI_4, sJ_1, sJ_2, sJ_3, sJ_4, sA_1, sA_2, sA_3, sA_4, sB_1, sB_2, sB_3, sB_4, decide_eq_true_eq, decide_eq_false_iff_not, reduceCtorEq, Int.toNat_natCast, Bool.and_true, mc_tf, List.getD_cons_zero, List.getD_cons_succ, Int.reduceToNat, Int.reduceAdd, Int.reduceSub, Int.reduceMul, Int.reduceNeg, Int.reduceLT, Int.reduceLE, Int.reduceEq, not_true_eq_false, not_false_eq_true, decide_true, decide_false] at h); (try (exfalso; omega))))
          | ((with_reducible apply GoA.sw0))
          | ((with_reducible apply GoA.c); all_goals (intro h; (try simp (disch := omega) only [jJ_lit, jJ_add, jJ_mul, iI_long, jJ_toI, l_lt, l_ge, l_gt, l_le, l_eq, l_ne, jJ_inj, k_ule, k_uln, iI_lit, iI_nat, iI_neg, iI_add, iI_sub, iI_mul, k_lt, k_ge, k_gt, k_le, k_eq, k_ne, k_cl, k_in, iI_inj, k_upe, k_upn, k_wue, k_wun, sI_1, sI_2, sI_3, sI_4, sJ_1, sJ_2, sJ_3, sJ_4, sA_1, sA_2, sA_3, sA_4, sB_1, sB_2, sB_3, sB_4, decide_eq_true_eq, decide_eq_false_iff_not, reduceCtorEq, Int.toNat_natCast, Bool.and_true, mc_tf, List.getD_cons_zero, List.getD_cons_succ, Int.reduceToNat, Int.reduceAdd, Int.reduceSub, Int.reduceMul, Int.reduceNeg, Int.reduceLT, Int.reduceLE, Int.reduceEq, not_true_eq_false, not_false_eq_true, decide_true, decide_false] at h); (try (exfalso; omega))))
        rw [t3c, show iI (i : Int) + 1 = iI ((i + 1 : Nat) : Int) by rw [iI_lit, iI_add]; rfl]
        exact hq
      · have c0 : mc_cond .eq (vAt C nm from_ (F i)) 0 = false := decide_eq_false hv
        have ev : fwV C nm F E (r + 1) i from_ = vAt C nm (F i) (E i) := if_pos (Or.inr hv)
        have hs := snd σ2 q1 q2 q3 (hF.tr b1) ev
        repeat' first
          | ((with_reducible show GoP _ _ (84, _) _); refine Hold.of ?_)
          | refine GoP.brf rfl (by assumption) ?_
          | ((with_reducible apply GoP.k0); exact rfl; exact rfl)
          | ((with_reducible apply GoP.k1); exact rfl; exact rfl; all_goals (intro h; (try simp (disch := omega) only [jJ_lit, jJ_add, jJ_mul, iI_long, jJ_toI, l_lt, l_ge, l_gt, l_le, l_eq, l_ne, jJ_inj, k_ule, k_uln, iI_lit, iI_nat, iI_neg, iI_add, iI_sub, iI_mul, k_lt, k_ge, k_gt, k_le, k_eq, k_ne, k_cl, k_in, iI_inj, k_upe, k_upn, k_wue, k_wun, sI_1, sI_2, sI_3, sI_4, sJ_1, sJ_2, sJ_3, sJ_4, sA_1, sA_2, sA_3, sA_4, sB_1, sB_2, sB_3, sB_4, decide_eq_true_eq, decide_eq_false_iff_not, reduceCtorEq, Int.toNat_natCast, Bool.and_true, mc_tf, List.getD_cons_zero, List.getD_cons_succ, Int.reduceToNat, Int.reduceAdd, Int.reduceSub, Int.reduceMul, Int.reduceNeg, Int.reduceLT, Int.reduceLE, Int.reduceEq, not_true_eq_false, not_false_eq_true, decide_true, decide_false] at h); (try (exfalso; omega))))
          | ((with_reducible apply GoP.k2); exact rfl; exact rfl; focus ((simp (disch := omega) only [jJ_lit, jJ_add, jJ_mul, iI_long, jJ_toI, l_lt, l_ge, l_gt, l_le, l_eq, l_ne, jJ_inj, k_ule, k_uln, iI_lit, iI_nat, iI_neg, iI_add, iI_sub, iI_mul, k_lt, k_ge, k_gt, k_le, k_eq, k_ne, k_cl, k_in, iI_inj, k_upe, k_upn, k_wue, k_wun, sI_1, sI_2, sI_3, sI_4, sJ_1, sJ_2, sJ_3, sJ_4, sA_1, sA_2, sA_3, sA_4, sB_1, sB_2, sB_3, sB_4, decide_eq_true_eq, decide_eq_false_iff_not, reduceCtorEq, Int.toNat_natCast, Bool.and_true, mc_tf, List.getD_cons_zero, List.getD_cons_succ, Int.reduceToNat, Int.reduceAdd, Int.reduceSub, Int.reduceMul, Int.reduceNeg, Int.reduceLT, Int.reduceLE, Int.reduceEq, not_true_eq_false, not_false_eq_true, decide_true, decide_false]) <;> omega))
          | ((with_reducible apply GoP.k4); exact rfl; exact rfl; exact rfl; try dsimp only [Option.toList, List.cons_append, List.nil_append])
          | ((with_reducible apply GoP.k5); exact rfl; exact rfl)
          | ((with_reducible apply GoA.sw); all_goals (intro h; (try simp (disch := omega) only [jJ_lit, jJ_add, jJ_mul, iI_long, jJ_toI, l_lt, l_ge, l_gt, l_le, l_eq, l_ne, jJ_inj, k_ule, k_uln, iI_lit, iI_nat, iI_neg, iI_add, iI_sub, iI_mul, k_lt, k_ge, k_gt, k_le, k_eq, k_ne, k_cl, k_in, iI_inj, k_upe, k_upn, k_wue, k_wun, sI_1, sI_2, sI_3, sI_4, sJ_1, sJ_2, sJ_3, sJ_4, sA_1, sA_2, sA_3, sA_4, sB_1, sB_2, sB_3, sB_4, decide_eq_true_eq, decide_eq_false_iff_not, reduceCtorEq, Int.toNat_natCast, Bool.and_true, mc_tf, List.getD_cons_zero, List.getD_cons_succ, Int.reduceToNat, Int.reduceAdd, Int.reduceSub, Int.reduceMul, Int.reduceNeg, Int.reduceLT, Int.reduceLE, Int.reduceEq, not_true_eq_false, not_false_eq_true, decide_true, decide_false] at h); (try (exfalso; omega))))
          | ((with_reducible apply GoA.sw0))
          | ((with_reducible apply GoA.c); all_goals (intro h; (try simp (disch := omega) only [jJ_lit, jJ_add, jJ_mul, iI_long, jJ_toI, l_lt, l_ge, l_gt, l_le, l_eq, l_ne, jJ_inj, k_ule, k_uln, iI_lit, iI_nat, iI_neg, iI_add, iI_sub, iI_mul, k_lt, k_ge, k_gt, k_le, k_eq, k_ne, k_cl, k_in, iI_inj, k_upe, k_upn, k_wue, k_wun, sI_1, sI_2, sI_3, sI_4, sJ_1, sJ_2, sJ_3, sJ_4, sA_1, sA_2, sA_3, sA_4, sB_1, sB_2, sB_3, sB_4, decide_eq_true_eq, decide_eq_false_iff_not, reduceCtorEq, Int.toNat_natCast, Bool.and_true, mc_tf, List.getD_cons_zero, List.getD_cons_succ, Int.reduceToNat, Int.reduceAdd, Int.reduceSub, Int.reduceMul, Int.reduceNeg, Int.reduceLT, Int.reduceLE, Int.reduceEq, not_true_eq_false, not_false_eq_true, decide_true, decide_false] at h); (try (exfalso; omega))))
        exact hs
set_option maxRecDepth 100000 in
set_option maxHeartbeats 16000000 in
theorem ct_verd_true {D n m : Nat} {a b c d e f : Int} {σ : wS} (hD : 6 ≤ D) (hn : n ≤ 120) (hm : m ≤ 61) (hP : PW C n F E m) (h1605 : σ.1 1605 = 1) (hC : NC true σ C n) (hM : NM true σ F E m) : EvP D 58 [.ref 16, .int (iI a), .int (iI b), .int (iI c), .int (iI d), .int (iI e), .int (iI f)] (xX true M σ) (fun R => ∃ σ', R = (some (.int (fwV C (nmF a b c d e f) F E m 0 0)), xX true M σ', 0, 0) ∧ Fr [] [] [23, 24, 30, 31] [] σ σ') := by
  obtain ⟨D, rfl⟩ : ∃ D', D = D' + 6 := ⟨D - 6, by omega⟩
  have hFa : Fr [] [] [23, 30] [] σ (sA σ 30 (fct (σ.2.2.1 30) (iI a) (iI b) (iI c) (iI d) (iI e) (iI f))) := Fr.sA (by decide)
  have hN : NN true (sA σ 30 (fct (σ.2.2.1 30) (iI a) (iI b) (iI c) (iI d) (iI e) (iI f))) (nmF a b c d e f) := by
    intro k hk
    obtain ⟨f0, f1, f2, f3, f4, f5⟩ := fct_at (σ.2.2.1 30) (iI a) (iI b) (iI c) (iI d) (iI e) (iI f)
    have hk2 : k = 0 ∨ k = 1 ∨ k = 2 ∨ k = 3 ∨ k = 4 ∨ k = 5 := by omega
    rcases hk2 with rfl | rfl | rfl | rfl | rfl | rfl
    · exact f0
    · exact f1
    · exact f2
    · exact f3
    · exact f4
    · exact f5
  have hl := lx_verd_true (M := M) (nm := nmF a b c d e f) (D := D + 2) (a := iI a) (b := iI b) (c := iI c) (d := iI d) (e := iI e) (f := iI f) (σ0 := sA σ 30 (fct (σ.2.2.1 30) (iI a) (iI b) (iI c) (iI d) (iI e) (iI f))) hn hm hP m 0 (sA σ 30 (fct (σ.2.2.1 30) (iI a) (iI b) (iI c) (iI d) (iI e) (iI f))) none 0 (Nat.zero_add _) rfl (show NC true (sA σ 30 (fct (σ.2.2.1 30) (iI a) (iI b) (iI c) (iI d) (iI e) (iI f))) C n from hC) hN (hM.fr (hFa.up (by decide))) Fr.rf
  refine EvP.kof (T := tb_X6_verdict) rfl rfl ?_
  dsimp only [mc_pad, mc_exp]
  repeat' first
    | ((with_reducible show GoP _ tb_X6_verdict (39, _) _); refine Hold.of ?_)
    | ((with_reducible apply GoP.k0); exact rfl; exact rfl)
    | ((with_reducible apply GoP.k1); exact rfl; exact rfl; all_goals (intro h; (try simp (disch := omega) only [jJ_lit, jJ_add, jJ_mul, iI_long, jJ_toI, l_lt, l_ge, l_gt, l_le, l_eq, l_ne, jJ_inj, k_ule, k_uln, iI_lit, iI_nat, iI_neg, iI_add, iI_sub, iI_mul, k_lt, k_ge, k_gt, k_le, k_eq, k_ne, k_cl, k_in, iI_inj, k_upe, k_upn, k_wue, k_wun, sI_1, sI_2, sI_3, sI_4, sJ_1, sJ_2, sJ_3, sJ_4, sA_1, sA_2, sA_3, sA_4, sB_1, sB_2, sB_3, sB_4, decide_eq_true_eq, decide_eq_false_iff_not, reduceCtorEq, Int.toNat_natCast, Bool.and_true, mc_tf, List.getD_cons_zero, List.getD_cons_succ, Int.reduceToNat, Int.reduceAdd, Int.reduceSub, Int.reduceMul, Int.reduceNeg, Int.reduceLT, Int.reduceLE, Int.reduceEq, not_true_eq_false, not_false_eq_true, decide_true, decide_false, h1605] at h); (try (exfalso; omega))))
    | ((with_reducible apply GoP.k2); exact rfl; exact rfl; focus ((simp (disch := omega) only [jJ_lit, jJ_add, jJ_mul, iI_long, jJ_toI, l_lt, l_ge, l_gt, l_le, l_eq, l_ne, jJ_inj, k_ule, k_uln, iI_lit, iI_nat, iI_neg, iI_add, iI_sub, iI_mul, k_lt, k_ge, k_gt, k_le, k_eq, k_ne, k_cl, k_in, iI_inj, k_upe, k_upn, k_wue, k_wun, sI_1, sI_2, sI_3, sI_4, sJ_1, sJ_2, sJ_3, sJ_4, sA_1, sA_2, sA_3, sA_4, sB_1, sB_2, sB_3, sB_4, decide_eq_true_eq, decide_eq_false_iff_not, reduceCtorEq, Int.toNat_natCast, Bool.and_true, mc_tf, List.getD_cons_zero, List.getD_cons_succ, Int.reduceToNat, Int.reduceAdd, Int.reduceSub, Int.reduceMul, Int.reduceNeg, Int.reduceLT, Int.reduceLE, Int.reduceEq, not_true_eq_false, not_false_eq_true, decide_true, decide_false, h1605]) <;> omega))
    | ((with_reducible apply GoP.k3); exact rfl; exact rfl; exact rfl; exact rfl; dsimp only [mc_pad, mc_exp])
    | ((with_reducible apply GoP.k4); exact rfl; exact rfl; exact rfl; try dsimp only [Option.toList, List.cons_append, List.nil_append])
    | ((with_reducible apply GoP.k5); exact rfl; exact rfl)
    | ((with_reducible apply GoA.sw); all_goals (intro h; (try simp (disch := omega) only [jJ_lit, jJ_add, jJ_mul, iI_long, jJ_toI, l_lt, l_ge, l_gt, l_le, l_eq, l_ne, jJ_inj, k_ule, k_uln, iI_lit, iI_nat, iI_neg, iI_add, iI_sub, iI_mul, k_lt, k_ge, k_gt, k_le, k_eq, k_ne, k_cl, k_in, iI_inj, k_upe, k_upn, k_wue, k_wun, sI_1, sI_2, sI_3, sI_4, sJ_1, sJ_2, sJ_3, sJ_4, sA_1, sA_2, sA_3, sA_4, sB_1, sB_2, sB_3, sB_4, decide_eq_true_eq, decide_eq_false_iff_not, reduceCtorEq, Int.toNat_natCast, Bool.and_true, mc_tf, List.getD_cons_zero, List.getD_cons_succ, Int.reduceToNat, Int.reduceAdd, Int.reduceSub, Int.reduceMul, Int.reduceNeg, Int.reduceLT, Int.reduceLE, Int.reduceEq, not_true_eq_false, not_false_eq_true, decide_true, decide_false, h1605] at h); (try (exfalso; omega))))
    | ((with_reducible apply GoA.sw0))
    | ((with_reducible apply GoA.c); all_goals (intro h; (try simp (disch := omega) only [jJ_lit, jJ_add, jJ_mul, iI_long, jJ_toI, l_lt, l_ge, l_gt, l_le, l_eq, l_ne, jJ_inj, k_ule, k_uln, iI_lit, iI_nat, iI_neg, iI_add, iI_sub, iI_mul, k_lt, k_ge, k_gt, k_le, k_eq, k_ne, k_cl, k_in, iI_inj, k_upe, k_upn, k_wue, k_wun, sI_1, sI_2, sI_3, sI_4, sJ_1, sJ_2, sJ_3, sJ_4, sA_1, sA_2, sA_3, sA_4, sB_1, sB_2, sB_3, sB_4, decide_eq_true_eq, decide_eq_false_iff_not, reduceCtorEq, Int.toNat_natCast, Bool.and_true, mc_tf, List.getD_cons_zero, List.getD_cons_succ, Int.reduceToNat, Int.reduceAdd, Int.reduceSub, Int.reduceMul, Int.reduceNeg, Int.reduceLT, Int.reduceLE, Int.reduceEq, not_true_eq_false, not_false_eq_true, decide_true, decide_false, h1605] at h); (try (exfalso; omega))))
    | ((with_reducible apply EvP.kof); exact rfl; exact rfl; dsimp only [mc_pad, mc_exp])
  show GoP _ _ _ _
  rw [show (0 : Int32) = iI ((0 : Nat) : Int) from iI_lit 0]
  refine GoP.mono hl ?_
  rintro R ⟨σ', rfl, b1⟩
  exact ⟨σ', rfl, (hFa.up (by decide)).tr (b1.up (by decide))⟩
set_option maxRecDepth 100000 in
set_option maxHeartbeats 16000000 in
theorem lx_verd_false {D n m : Nat} {a b c d e f : Int32} {σ0 : wS} (hn : n ≤ 120) (hm : m ≤ 61) (hP : PW C n F E m) : ∀ (r i : Nat) (σ : wS) (x9 : Option Value) (from_ : Nat), i + r = m → from_ = (if i = 0 then 0 else E (i - 1)) → NC false σ C n → NN false σ nm → NM false σ F E m → Fr [] [] [24, 31] [] σ0 σ → GoP (D + 3) tb_X6_verdict (39, [some (.ref 16), some (.int a), some (.int b), some (.int c), some (.int d), some (.int e), some (.int f), some (.int (iI (from_ : Int))), some (.int (iI (i : Int))), x9], [], xX false M σ, 0, 0) (fun R => ∃ σ', R = (some (.int (fwV C nm F E r i from_)), xX false M σ', 0, 0) ∧ Fr [] [] [24, 31] [] σ0 σ') := by
  intro r
  induction r with
  | zero =>
    intro i σ x9 from_ hi hf hC hN hM hF
    obtain rfl : i = m := by omega
    have g1 : σ.1 1806 = iI (i : Int) := hM.1
    refine GoP.st1 rfl ?_
    repeat' first
      | ((with_reducible apply GoP.k0); exact rfl; exact rfl)
      | ((with_reducible apply GoP.k1); exact rfl; exact rfl; all_goals (intro h; (try simp (disch := omega) only [jJ_lit, jJ_add, jJ_mul, iI_long, jJ_toI, l_lt, l_ge, l_gt, l_le, l_eq, l_ne, jJ_inj, k_ule, k_uln, iI_lit, iI_nat, iI_neg, iI_add, iI_sub, iI_mul, k_lt, k_ge, k_gt, k_le, k_eq, k_ne, k_cl, k_in, iI_inj, k_upe, k_upn, k_wue, k_wun, sI_1, sI_2, sI_3, sI_4, sJ_1, sJ_2, sJ_3, sJ_4, sA_1, sA_2, sA_3, sA_4, sB_1, sB_2, sB_3, sB_4, decide_eq_true_eq, decide_eq_false_iff_not, reduceCtorEq, Int.toNat_natCast, Bool.and_true, mc_tf, List.getD_cons_zero, List.getD_cons_succ, Int.reduceToNat, Int.reduceAdd, Int.reduceSub, Int.reduceMul, Int.reduceNeg, Int.reduceLT, Int.reduceLE, Int.reduceEq, not_true_eq_false, not_false_eq_true, decide_true, decide_false, g1] at h); (try (exfalso; omega))))
      | ((with_reducible apply GoP.k2); exact rfl; exact rfl; focus ((simp (disch := omega) only [jJ_lit, jJ_add, jJ_mul, iI_long, jJ_toI, l_lt, l_ge, l_gt, l_le, l_eq, l_ne, jJ_inj, k_ule, k_uln, iI_lit, iI_nat, iI_neg, iI_add, iI_sub, iI_mul, k_lt, k_ge, k_gt, k_le, k_eq, k_ne, k_cl, k_in, iI_inj, k_upe, k_upn, k_wue, k_wun, sI_1, sI_2, sI_3, sI_4, sJ_1, sJ_2, sJ_3, sJ_4, sA_1, sA_2, sA_3, sA_4, sB_1, sB_2, sB_3, sB_4, decide_eq_true_eq, decide_eq_false_iff_not, reduceCtorEq, Int.toNat_natCast, Bool.and_true, mc_tf, List.getD_cons_zero, List.getD_cons_succ, Int.reduceToNat, Int.reduceAdd, Int.reduceSub, Int.reduceMul, Int.reduceNeg, Int.reduceLT, Int.reduceLE, Int.reduceEq, not_true_eq_false, not_false_eq_true, decide_true, decide_false, g1]) <;> omega))
      | ((with_reducible apply GoP.k4); exact rfl; exact rfl; exact rfl; try dsimp only [Option.toList, List.cons_append, List.nil_append])
      | ((with_reducible apply GoP.k5); exact rfl; exact rfl)
      | ((with_reducible apply GoA.sw); all_goals (intro h; (try simp (disch := omega) only [jJ_lit, jJ_add, jJ_mul, iI_long, jJ_toI, l_lt, l_ge, l_gt, l_le, l_eq, l_ne, jJ_inj, k_ule, k_uln, iI_lit, iI_nat, iI_neg, iI_add, iI_sub, iI_mul, k_lt, k_ge, k_gt, k_le, k_eq, k_ne, k_cl, k_in, iI_inj, k_upe, k_upn, k_wue, k_wun, sI_1, sI_2, sI_3, sI_4, sJ_1, sJ_2, sJ_3, sJ_4, sA_1, sA_2, sA_3, sA_4, sB_1, sB_2, sB_3, sB_4, decide_eq_true_eq, decide_eq_false_iff_not, reduceCtorEq, Int.toNat_natCast, Bool.and_true, mc_tf, List.getD_cons_zero, List.getD_cons_succ, Int.reduceToNat, Int.reduceAdd, Int.reduceSub, Int.reduceMul, Int.reduceNeg, Int.reduceLT, Int.reduceLE, Int.reduceEq, not_true_eq_false, not_false_eq_true, decide_true, decide_false, g1] at h); (try (exfalso; omega))))
      | ((with_reducible apply GoA.sw0))
      | ((with_reducible apply GoA.c); all_goals (intro h; (try simp (disch := omega) only [jJ_lit, jJ_add, jJ_mul, iI_long, jJ_toI, l_lt, l_ge, l_gt, l_le, l_eq, l_ne, jJ_inj, k_ule, k_uln, iI_lit, iI_nat, iI_neg, iI_add, iI_sub, iI_mul, k_lt, k_ge, k_gt, k_le, k_eq, k_ne, k_cl, k_in, iI_inj, k_upe, k_upn, k_wue, k_wun, sI_1, sI_2, sI_3, sI_4, sJ_1, sJ_2, sJ_3, sJ_4, sA_1, sA_2, sA_3, sA_4, sB_1, sB_2, sB_3, sB_4, decide_eq_true_eq, decide_eq_false_iff_not, reduceCtorEq, Int.toNat_natCast, Bool.and_true, mc_tf, List.getD_cons_zero, List.getD_cons_succ, Int.reduceToNat, Int.reduceAdd, Int.reduceSub, Int.reduceMul, Int.reduceNeg, Int.reduceLT, Int.reduceLE, Int.reduceEq, not_true_eq_false, not_false_eq_true, decide_true, decide_false, g1] at h); (try (exfalso; omega))))
    exact ⟨σ, R_int (iI_lit 0).symm rfl, hF⟩
  | succ r ih =>
    intro i σ x9 from_ hi hf hC hN hM hF
    have g1 : σ.1 1806 = iI (m : Int) := hM.1
    obtain ⟨g2, g3⟩ := hM.2 i (by omega)
    have g2 : σ.2.2.1 21 i = iI (F i : Int) := g2
    have g3 : σ.2.2.1 22 i = iI (E i : Int) := g3
    obtain ⟨⟨p1, p2⟩, p3, p4⟩ := hP i (by omega)
    rw [← hf] at p3
    have ei : (iI (i : Int)).toNatClampNeg = i := by
      rw [k_cl (by omega)]
      omega
    have g2c : σ.2.2.1 21 (iI (i : Int)).toNatClampNeg = iI (F i : Int) := by rw [ei, g2]
    have g3c : σ.2.2.1 22 (iI (i : Int)).toNatClampNeg = iI (E i : Int) := by rw [ei, g3]
    -- the second part
    have snd : ∀ (σ1 : wS), NC false σ1 C n → NN false σ1 nm → NM false σ1 F E m → Fr [] [] [24, 31] [] σ0 σ1 → fwV C nm F E (r + 1) i from_ = vAt C nm (F i) (E i) → GoP (D + 3) tb_X6_verdict (84, [some (.ref 16), some (.int a), some (.int b), some (.int c), some (.int d), some (.int e), some (.int f), some (.int (iI (from_ : Int))), some (.int (iI (i : Int))), some (.int (iI (F i : Int)))], [], xX false M σ1, 0, 0) (fun R => ∃ σ', R = (some (.int (fwV C nm F E (r + 1) i from_)), xX false M σ', 0, 0) ∧ Fr [] [] [24, 31] [] σ0 σ') := by
      intro σ1 q1 q2 q3 q4 q5
      obtain ⟨t2, t3⟩ := q3.2 i (by omega)
      have t3 : σ1.2.2.1 22 i = iI (E i : Int) := t3
      have t3c : σ1.2.2.1 22 (iI (i : Int)).toNatClampNeg = iI (E i : Int) := by rw [ei, t3]
      have hw := ct_work_false (M := M) (D := D + 3) (by omega) p1 hn p4 q1 q2
      rw [q5]
      repeat' first
        | ((with_reducible apply GoP.k0); exact rfl; exact rfl)
        | ((with_reducible apply GoP.k1); exact rfl; exact rfl; all_goals (intro h; (try simp (disch := omega) only [jJ_lit, jJ_add, jJ_mul, iI_long, jJ_toI, l_lt, l_ge, l_gt, l_le, l_eq, l_ne, jJ_inj, k_ule, k_uln, iI_lit, iI_nat, iI_neg, iI_add, iI_sub, iI_mul, k_lt, k_ge, k_gt, k_le, k_eq, k_ne, k_cl, k_in, iI_inj, k_upe, k_upn, k_wue, k_wun, sI_1, sI_2, sI_3, sI_4, sJ_1, sJ_2, sJ_3, sJ_4, sA_1, sA_2, sA_3, sA_4, sB_1, sB_2, sB_3, sB_4, decide_eq_true_eq, decide_eq_false_iff_not, reduceCtorEq, Int.toNat_natCast, Bool.and_true, mc_tf, List.getD_cons_zero, List.getD_cons_succ, Int.reduceToNat, Int.reduceAdd, Int.reduceSub, Int.reduceMul, Int.reduceNeg, Int.reduceLT, Int.reduceLE, Int.reduceEq, not_true_eq_false, not_false_eq_true, decide_true, decide_false] at h); (try (exfalso; omega))))
        | ((with_reducible apply GoP.k2); exact rfl; exact rfl; focus ((simp (disch := omega) only [jJ_lit, jJ_add, jJ_mul, iI_long, jJ_toI, l_lt, l_ge, l_gt, l_le, l_eq, l_ne, jJ_inj, k_ule, k_uln, iI_lit, iI_nat, iI_neg, iI_add, iI_sub, iI_mul, k_lt, k_ge, k_gt, k_le, k_eq, k_ne, k_cl, k_in, iI_inj, k_upe, k_upn, k_wue, k_wun, sI_1, sI_2, sI_3, sI_4, sJ_1, sJ_2, sJ_3, sJ_4, sA_1, sA_2, sA_3, sA_4, sB_1, sB_2, sB_3, sB_4, decide_eq_true_eq, decide_eq_false_iff_not, reduceCtorEq, Int.toNat_natCast, Bool.and_true, mc_tf, List.getD_cons_zero, List.getD_cons_succ, Int.reduceToNat, Int.reduceAdd, Int.reduceSub, Int.reduceMul, Int.reduceNeg, Int.reduceLT, Int.reduceLE, Int.reduceEq, not_true_eq_false, not_false_eq_true, decide_true, decide_false]) <;> omega))
        | ((with_reducible apply GoP.k4); exact rfl; exact rfl; exact rfl; try dsimp only [Option.toList, List.cons_append, List.nil_append])
        | ((with_reducible apply GoP.k5); exact rfl; exact rfl)
        | ((with_reducible apply GoA.sw); all_goals (intro h; (try simp (disch := omega) only [jJ_lit, jJ_add, jJ_mul, iI_long, jJ_toI, l_lt, l_ge, l_gt, l_le, l_eq, l_ne, jJ_inj, k_ule, k_uln, iI_lit, iI_nat, iI_neg, iI_add, iI_sub, iI_mul, k_lt, k_ge, k_gt, k_le, k_eq, k_ne, k_cl, k_in, iI_inj, k_upe, k_upn, k_wue, k_wun, sI_1, sI_2, sI_3, sI_4, sJ_1, sJ_2, sJ_3, sJ_4, sA_1, sA_2, sA_3, sA_4, sB_1, sB_2, sB_3, sB_4, decide_eq_true_eq, decide_eq_false_iff_not, reduceCtorEq, Int.toNat_natCast, Bool.and_true, mc_tf, List.getD_cons_zero, List.getD_cons_succ, Int.reduceToNat, Int.reduceAdd, Int.reduceSub, Int.reduceMul, Int.reduceNeg, Int.reduceLT, Int.reduceLE, Int.reduceEq, not_true_eq_false, not_false_eq_true, decide_true, decide_false] at h); (try (exfalso; omega))))
        | ((with_reducible apply GoA.sw0))
        | ((with_reducible apply GoA.c); all_goals (intro h; (try simp (disch := omega) only [jJ_lit, jJ_add, jJ_mul, iI_long, jJ_toI, l_lt, l_ge, l_gt, l_le, l_eq, l_ne, jJ_inj, k_ule, k_uln, iI_lit, iI_nat, iI_neg, iI_add, iI_sub, iI_mul, k_lt, k_ge, k_gt, k_le, k_eq, k_ne, k_cl, k_in, iI_inj, k_upe, k_upn, k_wue, k_wun, sI_1, sI_2, sI_3, sI_4, sJ_1, sJ_2, sJ_3, sJ_4, sA_1, sA_2, sA_3, sA_4, sB_1, sB_2, sB_3, sB_4, decide_eq_true_eq, decide_eq_false_iff_not, reduceCtorEq, Int.toNat_natCast, Bool.and_true, mc_tf, List.getD_cons_zero, List.getD_cons_succ, Int.reduceToNat, Int.reduceAdd, Int.reduceSub, Int.reduceMul, Int.reduceNeg, Int.reduceLT, Int.reduceLE, Int.reduceEq, not_true_eq_false, not_false_eq_true, decide_true, decide_false] at h); (try (exfalso; omega))))
      rw [t3c]
      refine GoP.kc rfl (hw) ?_
      rintro R ⟨σ2, rfl, b1⟩
      dsimp only [Option.toList, List.cons_append, List.nil_append]
      repeat' first
        | ((with_reducible apply GoP.k0); exact rfl; exact rfl)
        | ((with_reducible apply GoP.k1); exact rfl; exact rfl; all_goals (intro h; (try simp (disch := omega) only [jJ_lit, jJ_add, jJ_mul, iI_long, jJ_toI, l_lt, l_ge, l_gt, l_le, l_eq, l_ne, jJ_inj, k_ule, k_uln, iI_lit, iI_nat, iI_neg, iI_add, iI_sub, iI_mul, k_lt, k_ge, k_gt, k_le, k_eq, k_ne, k_cl, k_in, iI_inj, k_upe, k_upn, k_wue, k_wun, sI_1, sI_2, sI_3, sI_4, sJ_1, sJ_2, sJ_3, sJ_4, sA_1, sA_2, sA_3, sA_4, sB_1, sB_2, sB_3, sB_4, decide_eq_true_eq, decide_eq_false_iff_not, reduceCtorEq, Int.toNat_natCast, Bool.and_true, mc_tf, List.getD_cons_zero, List.getD_cons_succ, Int.reduceToNat, Int.reduceAdd, Int.reduceSub, Int.reduceMul, Int.reduceNeg, Int.reduceLT, Int.reduceLE, Int.reduceEq, not_true_eq_false, not_false_eq_true, decide_true, decide_false] at h); (try (exfalso; omega))))
        | ((with_reducible apply GoP.k2); exact rfl; exact rfl; focus ((simp (disch := omega) only [jJ_lit, jJ_add, jJ_mul, iI_long, jJ_toI, l_lt, l_ge, l_gt, l_le, l_eq, l_ne, jJ_inj, k_ule, k_uln, iI_lit, iI_nat, iI_neg, iI_add, iI_sub, iI_mul, k_lt, k_ge, k_gt, k_le, k_eq, k_ne, k_cl, k_in, iI_inj, k_upe, k_upn, k_wue, k_wun, sI_1, sI_2, sI_3, sI_4, sJ_1, sJ_2, sJ_3, sJ_4, sA_1, sA_2, sA_3, sA_4, sB_1, sB_2, sB_3, sB_4, decide_eq_true_eq, decide_eq_false_iff_not, reduceCtorEq, Int.toNat_natCast, Bool.and_true, mc_tf, List.getD_cons_zero, List.getD_cons_succ, Int.reduceToNat, Int.reduceAdd, Int.reduceSub, Int.reduceMul, Int.reduceNeg, Int.reduceLT, Int.reduceLE, Int.reduceEq, not_true_eq_false, not_false_eq_true, decide_true, decide_false]) <;> omega))
        | ((with_reducible apply GoP.k4); exact rfl; exact rfl; exact rfl; try dsimp only [Option.toList, List.cons_append, List.nil_append])
        | ((with_reducible apply GoP.k5); exact rfl; exact rfl)
        | ((with_reducible apply GoA.sw); all_goals (intro h; (try simp (disch := omega) only [jJ_lit, jJ_add, jJ_mul, iI_long, jJ_toI, l_lt, l_ge, l_gt, l_le, l_eq, l_ne, jJ_inj, k_ule, k_uln, iI_lit, iI_nat, iI_neg, iI_add, iI_sub, iI_mul, k_lt, k_ge, k_gt, k_le, k_eq, k_ne, k_cl, k_in, iI_inj, k_upe, k_upn, k_wue, k_wun, sI_1, sI_2, sI_3, sI_4, sJ_1, sJ_2, sJ_3, sJ_4, sA_1, sA_2, sA_3, sA_4, sB_1, sB_2, sB_3, sB_4, decide_eq_true_eq, decide_eq_false_iff_not, reduceCtorEq, Int.toNat_natCast, Bool.and_true, mc_tf, List.getD_cons_zero, List.getD_cons_succ, Int.reduceToNat, Int.reduceAdd, Int.reduceSub, Int.reduceMul, Int.reduceNeg, Int.reduceLT, Int.reduceLE, Int.reduceEq, not_true_eq_false, not_false_eq_true, decide_true, decide_false] at h); (try (exfalso; omega))))
        | ((with_reducible apply GoA.sw0))
        | ((with_reducible apply GoA.c); all_goals (intro h; (try simp (disch := omega) only [jJ_lit, jJ_add, jJ_mul, iI_long, jJ_toI, l_lt, l_ge, l_gt, l_le, l_eq, l_ne, jJ_inj, k_ule, k_uln, iI_lit, iI_nat, iI_neg, iI_add, iI_sub, iI_mul, k_lt, k_ge, k_gt, k_le, k_eq, k_ne, k_cl, k_in, iI_inj, k_upe, k_upn, k_wue, k_wun, sI_1, sI_2, sI_3, sI_4, sJ_1, sJ_2, sJ_3, sJ_4, sA_1, sA_2, sA_3, sA_4, sB_1, sB_2, sB_3, sB_4, decide_eq_true_eq, decide_eq_false_iff_not, reduceCtorEq, Int.toNat_natCast, Bool.and_true, mc_tf, List.getD_cons_zero, List.getD_cons_succ, Int.reduceToNat, Int.reduceAdd, Int.reduceSub, Int.reduceMul, Int.reduceNeg, Int.reduceLT, Int.reduceLE, Int.reduceEq, not_true_eq_false, not_false_eq_true, decide_true, decide_false] at h); (try (exfalso; omega))))
      exact ⟨σ2, rfl, q4.tr b1⟩
    by_cases hff : F i = from_
    · have ev : fwV C nm F E (r + 1) i from_ = vAt C nm (F i) (E i) := if_pos (Or.inl hff)
      have hs := snd σ hC hN hM hF ev
      rw [← g2c] at hs
      refine GoP.st1 rfl ?_
      repeat' first
        | ((with_reducible show GoP _ _ (84, _) _); refine Hold.of ?_)
        | ((with_reducible apply GoP.k0); exact rfl; exact rfl)
        | ((with_reducible apply GoP.k1); exact rfl; exact rfl; all_goals (intro h; (try simp (disch := omega) only [jJ_lit, jJ_add, jJ_mul, iI_long, jJ_toI, l_lt, l_ge, l_gt, l_le, l_eq, l_ne, jJ_inj, k_ule, k_uln, iI_lit, iI_nat, iI_neg, iI_add, iI_sub, iI_mul, k_lt, k_ge, k_gt, k_le, k_eq, k_ne, k_cl, k_in, iI_inj, k_upe, k_upn, k_wue, k_wun, sI_1, sI_2, sI_3, sI_4, sJ_1, sJ_2, sJ_3, sJ_4, sA_1, sA_2, sA_3, sA_4, sB_1, sB_2, sB_3, sB_4, decide_eq_true_eq, decide_eq_false_iff_not, reduceCtorEq, Int.toNat_natCast, Bool.and_true, mc_tf, List.getD_cons_zero, List.getD_cons_succ, Int.reduceToNat, Int.reduceAdd, Int.reduceSub, Int.reduceMul, Int.reduceNeg, Int.reduceLT, Int.reduceLE, Int.reduceEq, not_true_eq_false, not_false_eq_true, decide_true, decide_false, g1, g2] at h); (try (exfalso; omega))))
        | ((with_reducible apply GoP.k2); exact rfl; exact rfl; focus ((simp (disch := omega) only [jJ_lit, jJ_add, jJ_mul, iI_long, jJ_toI, l_lt, l_ge, l_gt, l_le, l_eq, l_ne, jJ_inj, k_ule, k_uln, iI_lit, iI_nat, iI_neg, iI_add, iI_sub, iI_mul, k_lt, k_ge, k_gt, k_le, k_eq, k_ne, k_cl, k_in, iI_inj, k_upe, k_upn, k_wue, k_wun, sI_1, sI_2, sI_3, sI_4, sJ_1, sJ_2, sJ_3, sJ_4, sA_1, sA_2, sA_3, sA_4, sB_1, sB_2, sB_3, sB_4, decide_eq_true_eq, decide_eq_false_iff_not, reduceCtorEq, Int.toNat_natCast, Bool.and_true, mc_tf, List.getD_cons_zero, List.getD_cons_succ, Int.reduceToNat, Int.reduceAdd, Int.reduceSub, Int.reduceMul, Int.reduceNeg, Int.reduceLT, Int.reduceLE, Int.reduceEq, not_true_eq_false, not_false_eq_true, decide_true, decide_false, g1, g2]) <;> omega))
        | ((with_reducible apply GoP.k4); exact rfl; exact rfl; exact rfl; try dsimp only [Option.toList, List.cons_append, List.nil_append])
        | ((with_reducible apply GoP.k5); exact rfl; exact rfl)
        | ((with_reducible apply GoA.sw); all_goals (intro h; (try simp (disch := omega) only [jJ_lit, jJ_add, jJ_mul, iI_long, jJ_toI, l_lt, l_ge, l_gt, l_le, l_eq, l_ne, jJ_inj, k_ule, k_uln, iI_lit, iI_nat, iI_neg, iI_add, iI_sub, iI_mul, k_lt, k_ge, k_gt, k_le, k_eq, k_ne, k_cl, k_in, iI_inj, k_upe, k_upn, k_wue, k_wun, sI_1, sI_2, sI_3, sI_4, sJ_1, sJ_2, sJ_3, sJ_4, sA_1, sA_2, sA_3, sA_4, sB_1, sB_2, sB_3, sB_4, decide_eq_true_eq, decide_eq_false_iff_not, reduceCtorEq, Int.toNat_natCast, Bool.and_true, mc_tf, List.getD_cons_zero, List.getD_cons_succ, Int.reduceToNat, Int.reduceAdd, Int.reduceSub, Int.reduceMul, Int.reduceNeg, Int.reduceLT, Int.reduceLE, Int.reduceEq, not_true_eq_false, not_false_eq_true, decide_true, decide_false, g1, g2] at h); (try (exfalso; omega))))
        | ((with_reducible apply GoA.sw0))
        | ((with_reducible apply GoA.c); all_goals (intro h; (try simp (disch := omega) only [jJ_lit, jJ_add, jJ_mul, iI_long, jJ_toI, l_lt, l_ge, l_gt, l_le, l_eq, l_ne, jJ_inj, k_ule, k_uln, iI_lit, iI_nat, iI_neg, iI_add, iI_sub, iI_mul, k_lt, k_ge, k_gt, k_le, k_eq, k_ne, k_cl, k_in, iI_inj, k_upe, k_upn, k_wue, k_wun, sI_1, sI_2, sI_3, sI_4, sJ_1, sJ_2, sJ_3, sJ_4, sA_1, sA_2, sA_3, sA_4, sB_1, sB_2, sB_3, sB_4, decide_eq_true_eq, decide_eq_false_iff_not, reduceCtorEq, Int.toNat_natCast, Bool.and_true, mc_tf, List.getD_cons_zero, List.getD_cons_succ, Int.reduceToNat, Int.reduceAdd, Int.reduceSub, Int.reduceMul, Int.reduceNeg, Int.reduceLT, Int.reduceLE, Int.reduceEq, not_true_eq_false, not_false_eq_true, decide_true, decide_false, g1, g2] at h); (try (exfalso; omega))))
      exact hs
    · have p3 : wfs C from_ (F i) := p3.elim (fun z => absurd z hff) id
      have p5 : from_ < F i := p3.1
      have hw := ct_work_false (M := M) (D := D + 3) (by omega) (Nat.le_trans p2 p1) hn p3 hC hN
      refine GoP.st1 rfl ?_
      repeat' first
        | ((with_reducible apply GoP.k0); exact rfl; exact rfl)
        | ((with_reducible apply GoP.k1); exact rfl; exact rfl; all_goals (intro h; (try simp (disch := omega) only [jJ_lit, jJ_add, jJ_mul, iI_long, jJ_toI, l_lt, l_ge, l_gt, l_le, l_eq, l_ne, jJ_inj, k_ule, k_uln, iI_lit, iI_nat, iI_neg, iI_add, iI_sub, iI_mul, k_lt, k_ge, k_gt, k_le, k_eq, k_ne, k_cl, k_in, iI_inj, k_upe, k_upn, k_wue, k_wun, sI_1, sI_2, sI_3, sI_4, sJ_1, sJ_2, sJ_3, sJ_4, sA_1, sA_2, sA_3, sA_4, sB_1, sB_2, sB_3, sB_4, decide_eq_true_eq, decide_eq_false_iff_not, reduceCtorEq, Int.toNat_natCast, Bool.and_true, mc_tf, List.getD_cons_zero, List.getD_cons_succ, Int.reduceToNat, Int.reduceAdd, Int.reduceSub, Int.reduceMul, Int.reduceNeg, Int.reduceLT, Int.reduceLE, Int.reduceEq, not_true_eq_false, not_false_eq_true, decide_true, decide_false, g1, g2] at h); (try (exfalso; omega))))
        | ((with_reducible apply GoP.k2); exact rfl; exact rfl; focus ((simp (disch := omega) only [jJ_lit, jJ_add, jJ_mul, iI_long, jJ_toI, l_lt, l_ge, l_gt, l_le, l_eq, l_ne, jJ_inj, k_ule, k_uln, iI_lit, iI_nat, iI_neg, iI_add, iI_sub, iI_mul, k_lt, k_ge, k_gt, k_le, k_eq, k_ne, k_cl, k_in, iI_inj, k_upe, k_upn, k_wue, k_wun, sI_1, sI_2, sI_3, sI_4, sJ_1, sJ_2, sJ_3, sJ_4, sA_1, sA_2, sA_3, sA_4, sB_1, sB_2, sB_3, sB_4, decide_eq_true_eq, decide_eq_false_iff_not, reduceCtorEq, Int.toNat_natCast, Bool.and_true, mc_tf, List.getD_cons_zero, List.getD_cons_succ, Int.reduceToNat, Int.reduceAdd, Int.reduceSub, Int.reduceMul, Int.reduceNeg, Int.reduceLT, Int.reduceLE, Int.reduceEq, not_true_eq_false, not_false_eq_true, decide_true, decide_false, g1, g2]) <;> omega))
        | ((with_reducible apply GoP.k4); exact rfl; exact rfl; exact rfl; try dsimp only [Option.toList, List.cons_append, List.nil_append])
        | ((with_reducible apply GoP.k5); exact rfl; exact rfl)
        | ((with_reducible apply GoA.sw); all_goals (intro h; (try simp (disch := omega) only [jJ_lit, jJ_add, jJ_mul, iI_long, jJ_toI, l_lt, l_ge, l_gt, l_le, l_eq, l_ne, jJ_inj, k_ule, k_uln, iI_lit, iI_nat, iI_neg, iI_add, iI_sub, iI_mul, k_lt, k_ge, k_gt, k_le, k_eq, k_ne, k_cl, k_in, iI_inj, k_upe, k_upn, k_wue, k_wun, sI_1, sI_2, sI_3, sI_4, sJ_1, sJ_2, sJ_3, sJ_4, sA_1, sA_2, sA_3, sA_4, sB_1, sB_2, sB_3, sB_4, decide_eq_true_eq, decide_eq_false_iff_not, reduceCtorEq, Int.toNat_natCast, Bool.and_true, mc_tf, List.getD_cons_zero, List.getD_cons_succ, Int.reduceToNat, Int.reduceAdd, Int.reduceSub, Int.reduceMul, Int.reduceNeg, Int.reduceLT, Int.reduceLE, Int.reduceEq, not_true_eq_false, not_false_eq_true, decide_true, decide_false, g1, g2] at h); (try (exfalso; omega))))
        | ((with_reducible apply GoA.sw0))
        | ((with_reducible apply GoA.c); all_goals (intro h; (try simp (disch := omega) only [jJ_lit, jJ_add, jJ_mul, iI_long, jJ_toI, l_lt, l_ge, l_gt, l_le, l_eq, l_ne, jJ_inj, k_ule, k_uln, iI_lit, iI_nat, iI_neg, iI_add, iI_sub, iI_mul, k_lt, k_ge, k_gt, k_le, k_eq, k_ne, k_cl, k_in, iI_inj, k_upe, k_upn, k_wue, k_wun, sI_1, sI_2, sI_3, sI_4, sJ_1, sJ_2, sJ_3, sJ_4, sA_1, sA_2, sA_3, sA_4, sB_1, sB_2, sB_3, sB_4, decide_eq_true_eq, decide_eq_false_iff_not, reduceCtorEq, Int.toNat_natCast, Bool.and_true, mc_tf, List.getD_cons_zero, List.getD_cons_succ, Int.reduceToNat, Int.reduceAdd, Int.reduceSub, Int.reduceMul, Int.reduceNeg, Int.reduceLT, Int.reduceLE, Int.reduceEq, not_true_eq_false, not_false_eq_true, decide_true, decide_false, g1, g2] at h); (try (exfalso; omega))))
      rw [g2c]
      refine GoP.kc rfl (hw) ?_
      rintro R ⟨σ2, rfl, b1⟩
      dsimp only [Option.toList, List.cons_append, List.nil_append]
      have q1 := hC.fr b1
      have q2 := hN.fr b1
      have q3 := hM.fr (b1.up (by decide))
      by_cases hv : vAt C nm from_ (F i) = 0
      · have c0 : mc_cond .eq (vAt C nm from_ (F i)) 0 = true := decide_eq_true hv
        have ev : fwV C nm F E (r + 1) i from_ = fwV C nm F E r (i + 1) (E i) := if_neg (fun z => z.elim hff (fun y => y hv))
        obtain ⟨t2, t3⟩ := q3.2 i (by omega)
        have t3 : σ2.2.2.1 22 i = iI (E i : Int) := t3
        have t3c : σ2.2.2.1 22 (iI (i : Int)).toNatClampNeg = iI (E i : Int) := by rw [ei, t3]
        have hq := ih (i + 1) σ2 (some (.int (iI (F i : Int)))) (E i) (by omega) (by rw [if_neg (by omega), Nat.add_sub_cancel]) q1 q2 q3 (hF.tr b1)
        rw [ev]
        repeat' first
          | ((with_reducible show GoP _ _ (39, _) _); refine Hold.of ?_)
          | refine GoP.brt rfl (by assumption) ?_
          | ((with_reducible apply GoP.k0); exact rfl; exact rfl)
          | ((with_reducible apply GoP.k1); exact rfl; exact rfl; all_goals (intro h; (try simp (disch := omega) only [jJ_lit, jJ_add, jJ_mul, iI_long, jJ_toI, l_lt, l_ge, l_gt, l_le, l_eq, l_ne, jJ_inj, k_ule, k_uln, iI_lit, iI_nat, iI_neg, iI_add, iI_sub, iI_mul, k_lt, k_ge, k_gt, k_le, k_eq, k_ne, k_cl, k_in, iI_inj, k_upe, k_upn, k_wue, k_wun, sI_1, sI_2, sI_3, sI_4, sJ_1, sJ_2, sJ_3, sJ_4, sA_1, sA_2, sA_3, sA_4, sB_1, sB_2, sB_3, sB_4, decide_eq_true_eq, decide_eq_false_iff_not, reduceCtorEq, Int.toNat_natCast, Bool.and_true, mc_tf, List.getD_cons_zero, List.getD_cons_succ, Int.reduceToNat, Int.reduceAdd, Int.reduceSub, Int.reduceMul, Int.reduceNeg, Int.reduceLT, Int.reduceLE, Int.reduceEq, not_true_eq_false, not_false_eq_true, decide_true, decide_false] at h); (try (exfalso; omega))))
          | ((with_reducible apply GoP.k2); exact rfl; exact rfl; focus ((simp (disch := omega) only [jJ_lit, jJ_add, jJ_mul, iI_long, jJ_toI, l_lt, l_ge, l_gt, l_le, l_eq, l_ne, jJ_inj, k_ule, k_uln, iI_lit, iI_nat, iI_neg, iI_add, iI_sub, iI_mul, k_lt, k_ge, k_gt, k_le, k_eq, k_ne, k_cl, k_in, iI_inj, k_upe, k_upn, k_wue, k_wun, sI_1, sI_2, sI_3, sI_4, sJ_1, sJ_2, sJ_3, sJ_4, sA_1, sA_2, sA_3, sA_4, sB_1, sB_2, sB_3, sB_4, decide_eq_true_eq, decide_eq_false_iff_not, reduceCtorEq, Int.toNat_natCast, Bool.and_true, mc_tf, List.getD_cons_zero, List.getD_cons_succ, Int.reduceToNat, Int.reduceAdd, Int.reduceSub, Int.reduceMul, Int.reduceNeg, Int.reduceLT, Int.reduceLE, Int.reduceEq, not_true_eq_false, not_false_eq_true, decide_true, decide_false]) <;> omega))
          | ((with_reducible apply GoP.k4); exact rfl; exact rfl; exact rfl; try dsimp only [Option.toList, List.cons_append, List.nil_append])
          | ((with_reducible apply GoP.k5); exact rfl; exact rfl)
          | ((with_reducible apply GoA.sw); all_goals (intro h; (try simp (disch := omega) only [jJ_lit, jJ_add, jJ_mul, iI_long, jJ_toI, l_lt, l_ge, l_gt, l_le, l_eq, l_ne, jJ_inj, k_ule, k_uln, iI_lit, iI_nat, iI_neg, iI_add, iI_sub, iI_mul, k_lt, k_ge, k_gt, k_le, k_eq, k_ne, k_cl, k_in, iI_inj, k_upe, k_upn, k_wue, k_wun, sI_1, sI_2, sI_3, sI_4, sJ_1, sJ_2, sJ_3, sJ_4, sA_1, sA_2, sA_3, sA_4, sB_1, sB_2, sB_3, sB_4, decide_eq_true_eq, decide_eq_false_iff_not, reduceCtorEq, Int.toNat_natCast, Bool.and_true, mc_tf, List.getD_cons_zero, List.getD_cons_succ, Int.reduceToNat, Int.reduceAdd, Int.reduceSub, Int.reduceMul, Int.reduceNeg, Int.reduceLT, Int.reduceLE, Int.reduceEq, not_true_eq_false, not_false_eq_true, decide_true, decide_false] at h); (try (exfalso; omega))))
          | ((with_reducible apply GoA.sw0))
          | ((with_reducible apply GoA.c); all_goals (intro h; (try simp (disch := omega) only [jJ_lit, jJ_add, jJ_mul, iI_long, jJ_toI, l_lt, l_ge, l_gt, l_le, l_eq, l_ne, jJ_inj, k_ule, k_uln, iI_lit, iI_nat, iI_neg, iI_add, iI_sub, iI_mul, k_lt, k_ge, k_gt, k_le, k_eq, k_ne, k_cl, k_in, iI_inj, k_upe, k_upn, k_wue, k_wun, sI_1, sI_2, sI_3, sI_4, sJ_1, sJ_2, sJ_3, sJ_4, sA_1, sA_2, sA_3, sA_4, sB_1, sB_2, sB_3, sB_4, decide_eq_true_eq, decide_eq_false_iff_not, reduceCtorEq, Int.toNat_natCast, Bool.and_true, mc_tf, List.getD_cons_zero, List.getD_cons_succ, Int.reduceToNat, Int.reduceAdd, Int.reduceSub, Int.reduceMul, Int.reduceNeg, Int.reduceLT, Int.reduceLE, Int.reduceEq, not_true_eq_false, not_false_eq_true, decide_true, decide_false] at h); (try (exfalso; omega))))
        rw [t3c, show iI (i : Int) + 1 = iI ((i + 1 : Nat) : Int) by rw [iI_lit, iI_add]; rfl]
        exact hq
      · have c0 : mc_cond .eq (vAt C nm from_ (F i)) 0 = false := decide_eq_false hv
        have ev : fwV C nm F E (r + 1) i from_ = vAt C nm (F i) (E i) := if_pos (Or.inr hv)
        have hs := snd σ2 q1 q2 q3 (hF.tr b1) ev
        repeat' first
          | ((with_reducible show GoP _ _ (84, _) _); refine Hold.of ?_)
          | refine GoP.brf rfl (by assumption) ?_
          | ((with_reducible apply GoP.k0); exact rfl; exact rfl)
          | ((with_reducible apply GoP.k1); exact rfl; exact rfl; all_goals (intro h; (try simp (disch := omega) only [jJ_lit, jJ_add, jJ_mul, iI_long, jJ_toI, l_lt, l_ge, l_gt, l_le, l_eq, l_ne, jJ_inj, k_ule, k_uln, iI_lit, iI_nat, iI_neg, iI_add, iI_sub, iI_mul, k_lt, k_ge, k_gt, k_le, k_eq, k_ne, k_cl, k_in, iI_inj, k_upe, k_upn, k_wue, k_wun, sI_1, sI_2, sI_3, sI_4, sJ_1, sJ_2, sJ_3, sJ_4, sA_1, sA_2, sA_3, sA_4, sB_1, sB_2, sB_3, sB_4, decide_eq_true_eq, decide_eq_false_iff_not, reduceCtorEq, Int.toNat_natCast, Bool.and_true, mc_tf, List.getD_cons_zero, List.getD_cons_succ, Int.reduceToNat, Int.reduceAdd, Int.reduceSub, Int.reduceMul, Int.reduceNeg, Int.reduceLT, Int.reduceLE, Int.reduceEq, not_true_eq_false, not_false_eq_true, decide_true, decide_false] at h); (try (exfalso; omega))))
          | ((with_reducible apply GoP.k2); exact rfl; exact rfl; focus ((simp (disch := omega) only [jJ_lit, jJ_add, jJ_mul, iI_long, jJ_toI, l_lt, l_ge, l_gt, l_le, l_eq, l_ne, jJ_inj, k_ule, k_uln, iI_lit, iI_nat, iI_neg, iI_add, iI_sub, iI_mul, k_lt, k_ge, k_gt, k_le, k_eq, k_ne, k_cl, k_in, iI_inj, k_upe, k_upn, k_wue, k_wun, sI_1, sI_2, sI_3, sI_4, sJ_1, sJ_2, sJ_3, sJ_4, sA_1, sA_2, sA_3, sA_4, sB_1, sB_2, sB_3, sB_4, decide_eq_true_eq, decide_eq_false_iff_not, reduceCtorEq, Int.toNat_natCast, Bool.and_true, mc_tf, List.getD_cons_zero, List.getD_cons_succ, Int.reduceToNat, Int.reduceAdd, Int.reduceSub, Int.reduceMul, Int.reduceNeg, Int.reduceLT, Int.reduceLE, Int.reduceEq, not_true_eq_false, not_false_eq_true, decide_true, decide_false]) <;> omega))
          | ((with_reducible apply GoP.k4); exact rfl; exact rfl; exact rfl; try dsimp only [Option.toList, List.cons_append, List.nil_append])
          | ((with_reducible apply GoP.k5); exact rfl; exact rfl)
          | ((with_reducible apply GoA.sw); all_goals (intro h; (try simp (disch := omega) only [jJ_lit, jJ_add, jJ_mul, iI_long, jJ_toI, l_lt, l_ge, l_gt, l_le, l_eq, l_ne, jJ_inj, k_ule, k_uln, iI_lit, iI_nat, iI_neg, iI_add, iI_sub, iI_mul, k_lt, k_ge, k_gt, k_le, k_eq, k_ne, k_cl, k_in, iI_inj, k_upe, k_upn, k_wue, k_wun, sI_1, sI_2, sI_3, sI_4, sJ_1, sJ_2, sJ_3, sJ_4, sA_1, sA_2, sA_3, sA_4, sB_1, sB_2, sB_3, sB_4, decide_eq_true_eq, decide_eq_false_iff_not, reduceCtorEq, Int.toNat_natCast, Bool.and_true, mc_tf, List.getD_cons_zero, List.getD_cons_succ, Int.reduceToNat, Int.reduceAdd, Int.reduceSub, Int.reduceMul, Int.reduceNeg, Int.reduceLT, Int.reduceLE, Int.reduceEq, not_true_eq_false, not_false_eq_true, decide_true, decide_false] at h); (try (exfalso; omega))))
          | ((with_reducible apply GoA.sw0))
          | ((with_reducible apply GoA.c); all_goals (intro h; (try simp (disch := omega) only [jJ_lit, jJ_add, jJ_mul, iI_long, jJ_toI, l_lt, l_ge, l_gt, l_le, l_eq, l_ne, jJ_inj, k_ule, k_uln, iI_lit, iI_nat, iI_neg, iI_add, iI_sub, iI_mul, k_lt, k_ge, k_gt, k_le, k_eq, k_ne, k_cl, k_in, iI_inj, k_upe, k_upn, k_wue, k_wun, sI_1, sI_2, sI_3, sI_4, sJ_1, sJ_2, sJ_3, sJ_4, sA_1, sA_2, sA_3, sA_4, sB_1, sB_2, sB_3, sB_4, decide_eq_true_eq, decide_eq_false_iff_not, reduceCtorEq, Int.toNat_natCast, Bool.and_true, mc_tf, List.getD_cons_zero, List.getD_cons_succ, Int.reduceToNat, Int.reduceAdd, Int.reduceSub, Int.reduceMul, Int.reduceNeg, Int.reduceLT, Int.reduceLE, Int.reduceEq, not_true_eq_false, not_false_eq_true, decide_true, decide_false] at h); (try (exfalso; omega))))
        exact hs
set_option maxRecDepth 100000 in
set_option maxHeartbeats 16000000 in
theorem ct_verd_false {D n m : Nat} {a b c d e f : Int} {σ : wS} (hD : 6 ≤ D) (hn : n ≤ 120) (hm : m ≤ 61) (hP : PW C n F E m) (h1605 : σ.1 1605 = 1) (hC : NC false σ C n) (hM : NM false σ F E m) : EvP D 58 [.ref 16, .int (iI a), .int (iI b), .int (iI c), .int (iI d), .int (iI e), .int (iI f)] (xX false M σ) (fun R => ∃ σ', R = (some (.int (fwV C (nmF a b c d e f) F E m 0 0)), xX false M σ', 0, 0) ∧ Fr [] [] [23, 24, 30, 31] [] σ σ') := by
  obtain ⟨D, rfl⟩ : ∃ D', D = D' + 6 := ⟨D - 6, by omega⟩
  have hFa : Fr [] [] [23, 30] [] σ (sA σ 23 (fct (σ.2.2.1 23) (iI a) (iI b) (iI c) (iI d) (iI e) (iI f))) := Fr.sA (by decide)
  have hN : NN false (sA σ 23 (fct (σ.2.2.1 23) (iI a) (iI b) (iI c) (iI d) (iI e) (iI f))) (nmF a b c d e f) := by
    intro k hk
    obtain ⟨f0, f1, f2, f3, f4, f5⟩ := fct_at (σ.2.2.1 23) (iI a) (iI b) (iI c) (iI d) (iI e) (iI f)
    have hk2 : k = 0 ∨ k = 1 ∨ k = 2 ∨ k = 3 ∨ k = 4 ∨ k = 5 := by omega
    rcases hk2 with rfl | rfl | rfl | rfl | rfl | rfl
    · exact f0
    · exact f1
    · exact f2
    · exact f3
    · exact f4
    · exact f5
  have hl := lx_verd_false (M := M) (nm := nmF a b c d e f) (D := D + 2) (a := iI a) (b := iI b) (c := iI c) (d := iI d) (e := iI e) (f := iI f) (σ0 := sA σ 23 (fct (σ.2.2.1 23) (iI a) (iI b) (iI c) (iI d) (iI e) (iI f))) hn hm hP m 0 (sA σ 23 (fct (σ.2.2.1 23) (iI a) (iI b) (iI c) (iI d) (iI e) (iI f))) none 0 (Nat.zero_add _) rfl (show NC false (sA σ 23 (fct (σ.2.2.1 23) (iI a) (iI b) (iI c) (iI d) (iI e) (iI f))) C n from hC) hN (hM.fr (hFa.up (by decide))) Fr.rf
  refine EvP.kof (T := tb_X6_verdict) rfl rfl ?_
  dsimp only [mc_pad, mc_exp]
  repeat' first
    | ((with_reducible show GoP _ tb_X6_verdict (39, _) _); refine Hold.of ?_)
    | ((with_reducible apply GoP.k0); exact rfl; exact rfl)
    | ((with_reducible apply GoP.k1); exact rfl; exact rfl; all_goals (intro h; (try simp (disch := omega) only [jJ_lit, jJ_add, jJ_mul, iI_long, jJ_toI, l_lt, l_ge, l_gt, l_le, l_eq, l_ne, jJ_inj, k_ule, k_uln, iI_lit, iI_nat, iI_neg, iI_add, iI_sub, iI_mul, k_lt, k_ge, k_gt, k_le, k_eq, k_ne, k_cl, k_in, iI_inj, k_upe, k_upn, k_wue, k_wun, sI_1, sI_2, sI_3, sI_4, sJ_1, sJ_2, sJ_3, sJ_4, sA_1, sA_2, sA_3, sA_4, sB_1, sB_2, sB_3, sB_4, decide_eq_true_eq, decide_eq_false_iff_not, reduceCtorEq, Int.toNat_natCast, Bool.and_true, mc_tf, List.getD_cons_zero, List.getD_cons_succ, Int.reduceToNat, Int.reduceAdd, Int.reduceSub, Int.reduceMul, Int.reduceNeg, Int.reduceLT, Int.reduceLE, Int.reduceEq, not_true_eq_false, not_false_eq_true, decide_true, decide_false, h1605] at h); (try (exfalso; omega))))
    | ((with_reducible apply GoP.k2); exact rfl; exact rfl; focus ((simp (disch := omega) only [jJ_lit, jJ_add, jJ_mul, iI_long, jJ_toI, l_lt, l_ge, l_gt, l_le, l_eq, l_ne, jJ_inj, k_ule, k_uln, iI_lit, iI_nat, iI_neg, iI_add, iI_sub, iI_mul, k_lt, k_ge, k_gt, k_le, k_eq, k_ne, k_cl, k_in, iI_inj, k_upe, k_upn, k_wue, k_wun, sI_1, sI_2, sI_3, sI_4, sJ_1, sJ_2, sJ_3, sJ_4, sA_1, sA_2, sA_3, sA_4, sB_1, sB_2, sB_3, sB_4, decide_eq_true_eq, decide_eq_false_iff_not, reduceCtorEq, Int.toNat_natCast, Bool.and_true, mc_tf, List.getD_cons_zero, List.getD_cons_succ, Int.reduceToNat, Int.reduceAdd, Int.reduceSub, Int.reduceMul, Int.reduceNeg, Int.reduceLT, Int.reduceLE, Int.reduceEq, not_true_eq_false, not_false_eq_true, decide_true, decide_false, h1605]) <;> omega))
    | ((with_reducible apply GoP.k3); exact rfl; exact rfl; exact rfl; exact rfl; dsimp only [mc_pad, mc_exp])
    | ((with_reducible apply GoP.k4); exact rfl; exact rfl; exact rfl; try dsimp only [Option.toList, List.cons_append, List.nil_append])
    | ((with_reducible apply GoP.k5); exact rfl; exact rfl)
    | ((with_reducible apply GoA.sw); all_goals (intro h; (try simp (disch := omega) only [jJ_lit, jJ_add, jJ_mul, iI_long, jJ_toI, l_lt, l_ge, l_gt, l_le, l_eq, l_ne, jJ_inj, k_ule, k_uln, iI_lit, iI_nat, iI_neg, iI_add, iI_sub, iI_mul, k_lt, k_ge, k_gt, k_le, k_eq, k_ne, k_cl, k_in, iI_inj, k_upe, k_upn, k_wue, k_wun, sI_1, sI_2, sI_3, sI_4, sJ_1, sJ_2, sJ_3, sJ_4, sA_1, sA_2, sA_3, sA_4, sB_1, sB_2, sB_3, sB_4, decide_eq_true_eq, decide_eq_false_iff_not, reduceCtorEq, Int.toNat_natCast, Bool.and_true, mc_tf, List.getD_cons_zero, List.getD_cons_succ, Int.reduceToNat, Int.reduceAdd, Int.reduceSub, Int.reduceMul, Int.reduceNeg, Int.reduceLT, Int.reduceLE, Int.reduceEq, not_true_eq_false, not_false_eq_true, decide_true, decide_false, h1605] at h); (try (exfalso; omega))))
    | ((with_reducible apply GoA.sw0))
    | ((with_reducible apply GoA.c); all_goals (intro h; (try simp (disch := omega) only [jJ_lit, jJ_add, jJ_mul, iI_long, jJ_toI, l_lt, l_ge, l_gt, l_le, l_eq, l_ne, jJ_inj, k_ule, k_uln, iI_lit, iI_nat, iI_neg, iI_add, iI_sub, iI_mul, k_lt, k_ge, k_gt, k_le, k_eq, k_ne, k_cl, k_in, iI_inj, k_upe, k_upn, k_wue, k_wun, sI_1, sI_2, sI_3, sI_4, sJ_1, sJ_2, sJ_3, sJ_4, sA_1, sA_2, sA_3, sA_4, sB_1, sB_2, sB_3, sB_4, decide_eq_true_eq, decide_eq_false_iff_not, reduceCtorEq, Int.toNat_natCast, Bool.and_true, mc_tf, List.getD_cons_zero, List.getD_cons_succ, Int.reduceToNat, Int.reduceAdd, Int.reduceSub, Int.reduceMul, Int.reduceNeg, Int.reduceLT, Int.reduceLE, Int.reduceEq, not_true_eq_false, not_false_eq_true, decide_true, decide_false, h1605] at h); (try (exfalso; omega))))
    | ((with_reducible apply EvP.kof); exact rfl; exact rfl; dsimp only [mc_pad, mc_exp])
  show GoP _ _ _ _
  rw [show (0 : Int32) = iI ((0 : Nat) : Int) from iI_lit 0]
  refine GoP.mono hl ?_
  rintro R ⟨σ', rfl, b1⟩
  exact ⟨σ', rfl, (hFa.up (by decide)).tr (b1.up (by decide))⟩
end
