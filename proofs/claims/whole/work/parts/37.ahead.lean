/-! The class's Ahead: what can come at most. -/
/-- the line in thought -/
def LX (T : tT) (σ : wS) : Prop := σ.1 3202 = iI (tN T : Int) ∧ σ.1 3203 = iI (tP T : Int) ∧ (∀ i, i < tN T → σ.2.2.1 34 i = iI (tV T 0 i : Int) ∧ σ.2.2.1 35 i = iI (tV T 1 i : Int) ∧ σ.2.2.1 36 i = iI (tV T 2 i : Int) ∧ σ.2.2.1 37 i = iI (tV T 3 i : Int) ∧ σ.2.2.1 38 i = iI (tV T 4 i : Int) ∧ σ.2.2.1 39 i = iI (tV T 5 i : Int) ∧ σ.2.2.1 40 i = iI (tV T 6 i : Int) ∧ σ.2.2.1 41 i = iI (tV T 7 i : Int)) ∧ ∀ s, s < 5 → σ.2.2.1 42 s = iI (syB (tB T) s : Int)
/-- one looks as far as the dish e - 1 -/
def LK (T : tT) (p e : Nat) (σ : wS) : Prop := σ.1 4507 = iI ((e : Int) - 1) ∧ σ.1 4508 = iI (p : Int) ∧ ∀ i, i < e → (∃ sf : Nat, sf < 32 ∧ σ.2.2.1 48 i = iI (sf : Int) ∧ ∀ j, i ≤ j → j < e → 0 < tV T 3 j → sf.testBit (tV T 4 j) = true) ∧ σ.2.2.2 49 i = jJ ((p : Int) ^ (e - 1 - i))
theorem LX.mv {T : tT} {σ σ' : wS} (h : LX T σ) (hF : Fm σ σ') : LX T σ' := by
  obtain ⟨h1, h2, h3, h4⟩ := h
  refine ⟨(hF.1 _ (by decide) (by decide)).trans h1, (hF.1 _ (by decide) (by decide)).trans h2, fun i hi => ?_, fun s hs => ?_⟩
  · rw [hF.2.2.1 34 (by decide), hF.2.2.1 35 (by decide), hF.2.2.1 36 (by decide), hF.2.2.1 37 (by decide), hF.2.2.1 38 (by decide), hF.2.2.1 39 (by decide), hF.2.2.1 40 (by decide), hF.2.2.1 41 (by decide)]
    exact h3 i hi
  · rw [hF.2.2.1 42 (by decide)]
    exact h4 s hs
theorem LK.mv {T : tT} {p e : Nat} {σ σ' : wS} (h : LK T p e σ) (hF : Fm σ σ') : LK T p e σ' := by
  obtain ⟨h1, h2, h3⟩ := h
  refine ⟨(hF.1 _ (by decide) (by decide)).trans h1, (hF.1 _ (by decide) (by decide)).trans h2, fun i hi => ?_⟩
  rw [hF.2.2.1 48 (by decide), hF.2.2.2 49 (by decide)]
  exact h3 i hi
/-- parts of one: there for sure; parts of twelve: by chance -/
def PC (T : tT) (p : Nat) (c : Nat → Nat) (e : Nat) : Prop := (p = 1 ∧ ∀ i, c i = 1) ∨ (p = 12 ∧ (∀ i, c i ≤ 12) ∧ ∀ i, i < e → c i = tV T 7 i)
theorem PC.le {T : tT} {p : Nat} {c : Nat → Nat} {e : Nat} (h : PC T p c e) (i : Nat) : c i ≤ p := by
  rcases h with ⟨rfl, h⟩ | ⟨rfl, h, _⟩
  · rw [h i]
    exact Nat.le_refl _
  · exact h i
/-- the answer of worthFrom -/
def rF (T : tT) (p : Nat) (c : Nat → Nat) (e st : Nat) (w : Bool) (M : kM) (σ : wS) (v : Option Value) (Z : wS → Prop) (R : mc_R) : Prop := ∃ (M' : kM) (σ' : wS) (cc nn : Nat), R = (v, xX w M' σ', cc, nn) ∧ cc + gM M = gM M' ∧ nn + 2196 * 2 ^ gM M = 2196 * 2 ^ gM M' ∧ KM st M' σ' ∧ CU T p c e st M' ∧ Fm σ σ' ∧ Z σ'
def pF (T : tT) (p : Nat) (c : Nat → Nat) (e st : Nat) (w : Bool) (m : Nat) : Prop := ∀ (D i room q : Nat) (M : kM) (σ : wS), 2 * m + 4 ≤ D → i + m = e → room ≤ 60 → q < 64 → KM st M σ → CU T p c e st M → LX T σ → LK T p e σ → EvP D 5 [.ref 45, .int (iI (i : Int)), .int (iI (room : Int)), .int (iI (q : Int))] (xX w M σ) (rF T p c e st w M σ (some (.long (jJ (va T p c m i room (q % 32) (q / 32))))) (fun _ => True))
def pW (T : tT) (p : Nat) (c : Nat → Nat) (e st : Nat) (w : Bool) (m : Nat) : Prop := ∀ (D i room q : Nat) (M : kM) (σ : wS), 2 * m + 5 ≤ D → i + m + 1 = e → room ≤ 60 → q < 64 → KM st M σ → CU T p c e st M → LX T σ → LK T p e σ → EvP D 7 [.ref 45, .int (iI (i : Int)), .int (iI (room : Int)), .int (iI (q : Int))] (xX w M σ) (rF T p c e st w M σ (some (.long (jJ (bs T p c m i room (q % 32) (q / 32)).1))) (fun σ' => σ'.1 4509 = iI ((bs T p c m i room (q % 32) (q / 32)).2 : Int)))
section
variable {T : tT} {p : Nat} {c : Nat → Nat} {e st : Nat} {w : Bool}
set_option maxRecDepth 100000 in
set_option maxHeartbeats 4000000 in
theorem pF_0 : pF T p c e st w 0 := by
  intro D i room q M σ hD hi hroom hq hK hC hX hL
  obtain ⟨D, rfl⟩ : ∃ D', D = D' + 1 := ⟨D - 1, by omega⟩
  have h4507 := hL.1
  refine EvP.kof (T := tb_X0_worthFrom) rfl rfl ?_
  dsimp only [mc_pad, mc_exp]
  have hir : (e : Int) < 2147483648 := by sorry
  repeat' first
    | ((with_reducible apply GoP.k0); exact rfl; exact rfl)
    | ((with_reducible apply GoP.k1); exact rfl; exact rfl; all_goals (intro h; (try simp (disch := omega) only [jJ_lit, jJ_add, jJ_mul, iI_long, jJ_toI, l_lt, l_ge, l_gt, l_le, l_eq, l_ne, jJ_inj, k_ule, k_uln, iI_lit, iI_nat, iI_neg, iI_add, iI_sub, iI_mul, k_lt, k_ge, k_gt, k_le, k_eq, k_ne, k_cl, k_in, iI_inj, k_upe, k_upn, k_wue, k_wun, sI_1, sI_2, sI_3, sI_4, sJ_1, sJ_2, sJ_3, sJ_4, sA_1, sA_2, sA_3, sA_4, sB_1, sB_2, sB_3, sB_4, decide_eq_true_eq, decide_eq_false_iff_not, reduceCtorEq, Int.toNat_natCast, Bool.and_true, mc_tf, List.getD_cons_zero, List.getD_cons_succ, Int.reduceToNat, Int.reduceAdd, Int.reduceSub, Int.reduceMul, Int.reduceNeg, Int.reduceLT, Int.reduceLE, Int.reduceEq, not_true_eq_false, not_false_eq_true, decide_true, decide_false, h4507] at h); (try (exfalso; omega))))
    | ((with_reducible apply GoP.k2); exact rfl; exact rfl; (simp (disch := omega) only [jJ_lit, jJ_add, jJ_mul, iI_long, jJ_toI, l_lt, l_ge, l_gt, l_le, l_eq, l_ne, jJ_inj, k_ule, k_uln, iI_lit, iI_nat, iI_neg, iI_add, iI_sub, iI_mul, k_lt, k_ge, k_gt, k_le, k_eq, k_ne, k_cl, k_in, iI_inj, k_upe, k_upn, k_wue, k_wun, sI_1, sI_2, sI_3, sI_4, sJ_1, sJ_2, sJ_3, sJ_4, sA_1, sA_2, sA_3, sA_4, sB_1, sB_2, sB_3, sB_4, decide_eq_true_eq, decide_eq_false_iff_not, reduceCtorEq, Int.toNat_natCast, Bool.and_true, mc_tf, List.getD_cons_zero, List.getD_cons_succ, Int.reduceToNat, Int.reduceAdd, Int.reduceSub, Int.reduceMul, Int.reduceNeg, Int.reduceLT, Int.reduceLE, Int.reduceEq, not_true_eq_false, not_false_eq_true, decide_true, decide_false, h4507]))
    | ((with_reducible apply GoP.k3); exact rfl; exact rfl; exact rfl; exact rfl; dsimp only [mc_pad, mc_exp])
    | ((with_reducible apply GoP.k4); exact rfl; exact rfl; exact rfl; try dsimp only [Option.toList, List.cons_append, List.nil_append])
    | ((with_reducible apply GoP.k5); exact rfl; exact rfl)
    | ((with_reducible apply GoA.sw); all_goals (intro h; (try simp (disch := omega) only [jJ_lit, jJ_add, jJ_mul, iI_long, jJ_toI, l_lt, l_ge, l_gt, l_le, l_eq, l_ne, jJ_inj, k_ule, k_uln, iI_lit, iI_nat, iI_neg, iI_add, iI_sub, iI_mul, k_lt, k_ge, k_gt, k_le, k_eq, k_ne, k_cl, k_in, iI_inj, k_upe, k_upn, k_wue, k_wun, sI_1, sI_2, sI_3, sI_4, sJ_1, sJ_2, sJ_3, sJ_4, sA_1, sA_2, sA_3, sA_4, sB_1, sB_2, sB_3, sB_4, decide_eq_true_eq, decide_eq_false_iff_not, reduceCtorEq, Int.toNat_natCast, Bool.and_true, mc_tf, List.getD_cons_zero, List.getD_cons_succ, Int.reduceToNat, Int.reduceAdd, Int.reduceSub, Int.reduceMul, Int.reduceNeg, Int.reduceLT, Int.reduceLE, Int.reduceEq, not_true_eq_false, not_false_eq_true, decide_true, decide_false, h4507] at h); (try (exfalso; omega))))
    | ((with_reducible apply GoA.sw0))
    | ((with_reducible apply GoA.c); all_goals (intro h; (try simp (disch := omega) only [jJ_lit, jJ_add, jJ_mul, iI_long, jJ_toI, l_lt, l_ge, l_gt, l_le, l_eq, l_ne, jJ_inj, k_ule, k_uln, iI_lit, iI_nat, iI_neg, iI_add, iI_sub, iI_mul, k_lt, k_ge, k_gt, k_le, k_eq, k_ne, k_cl, k_in, iI_inj, k_upe, k_upn, k_wue, k_wun, sI_1, sI_2, sI_3, sI_4, sJ_1, sJ_2, sJ_3, sJ_4, sA_1, sA_2, sA_3, sA_4, sB_1, sB_2, sB_3, sB_4, decide_eq_true_eq, decide_eq_false_iff_not, reduceCtorEq, Int.toNat_natCast, Bool.and_true, mc_tf, List.getD_cons_zero, List.getD_cons_succ, Int.reduceToNat, Int.reduceAdd, Int.reduceSub, Int.reduceMul, Int.reduceNeg, Int.reduceLT, Int.reduceLE, Int.reduceEq, not_true_eq_false, not_false_eq_true, decide_true, decide_false, h4507] at h); (try (exfalso; omega))))
    | ((with_reducible apply EvP.kof); exact rfl; exact rfl; dsimp only [mc_pad, mc_exp])
  exact ⟨M, σ, 0, 0, rfl, Nat.zero_add _, Nat.zero_add _, hK, hC, Fm.rf, trivial⟩
end
