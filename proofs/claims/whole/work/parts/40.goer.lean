/-! One who goes along the line. -/
theorem ct_min {D : Nat} {a b : Int} {h : mc_H} (hr : (-2147483648 ≤ a ∧ a < 2147483648) ∧ -2147483648 ≤ b ∧ b < 2147483648) : EvP (D + 1) 275 [.int (iI a), .int (iI b)] h (fun R => R = (some (.int (iI (min a b))), h, 0, 0)) := by
  refine EvP.kof (T := tb_J9_min_7cf53) rfl rfl ?_
  dsimp only [mc_pad, mc_exp]
  repeat' first
    | ((with_reducible apply GoP.k0); exact rfl; exact rfl)
    | ((with_reducible apply GoP.k1); exact rfl; exact rfl; all_goals (intro h; (try simp (disch := omega) only [jJ_lit, jJ_add, jJ_mul, iI_long, jJ_toI, l_lt, l_ge, l_gt, l_le, l_eq, l_ne, jJ_inj, k_ule, k_uln, iI_lit, iI_nat, iI_neg, iI_add, iI_sub, iI_mul, k_lt, k_ge, k_gt, k_le, k_eq, k_ne, k_cl, k_in, iI_inj, k_upe, k_upn, k_wue, k_wun, sI_1, sI_2, sI_3, sI_4, sJ_1, sJ_2, sJ_3, sJ_4, sA_1, sA_2, sA_3, sA_4, sB_1, sB_2, sB_3, sB_4, decide_eq_true_eq, decide_eq_false_iff_not, reduceCtorEq, Int.toNat_natCast, Bool.and_true, mc_tf, List.getD_cons_zero, List.getD_cons_succ, Int.reduceToNat, Int.reduceAdd, Int.reduceSub, Int.reduceMul, Int.reduceNeg, Int.reduceLT, Int.reduceLE, Int.reduceEq, not_true_eq_false, not_false_eq_true, decide_true, decide_false] at h); (try (exfalso; omega))))
    | ((with_reducible apply GoP.k2); exact rfl; exact rfl; focus ((simp (disch := omega) only [jJ_lit, jJ_add, jJ_mul, iI_long, jJ_toI, l_lt, l_ge, l_gt, l_le, l_eq, l_ne, jJ_inj, k_ule, k_uln, iI_lit, iI_nat, iI_neg, iI_add, iI_sub, iI_mul, k_lt, k_ge, k_gt, k_le, k_eq, k_ne, k_cl, k_in, iI_inj, k_upe, k_upn, k_wue, k_wun, sI_1, sI_2, sI_3, sI_4, sJ_1, sJ_2, sJ_3, sJ_4, sA_1, sA_2, sA_3, sA_4, sB_1, sB_2, sB_3, sB_4, decide_eq_true_eq, decide_eq_false_iff_not, reduceCtorEq, Int.toNat_natCast, Bool.and_true, mc_tf, List.getD_cons_zero, List.getD_cons_succ, Int.reduceToNat, Int.reduceAdd, Int.reduceSub, Int.reduceMul, Int.reduceNeg, Int.reduceLT, Int.reduceLE, Int.reduceEq, not_true_eq_false, not_false_eq_true, decide_true, decide_false]) <;> omega))
    | ((with_reducible apply GoP.k4); exact rfl; exact rfl; exact rfl; try dsimp only [Option.toList, List.cons_append, List.nil_append])
    | ((with_reducible apply GoP.k5); exact rfl; exact rfl)
    | ((with_reducible apply GoA.sw); all_goals (intro h; (try simp (disch := omega) only [jJ_lit, jJ_add, jJ_mul, iI_long, jJ_toI, l_lt, l_ge, l_gt, l_le, l_eq, l_ne, jJ_inj, k_ule, k_uln, iI_lit, iI_nat, iI_neg, iI_add, iI_sub, iI_mul, k_lt, k_ge, k_gt, k_le, k_eq, k_ne, k_cl, k_in, iI_inj, k_upe, k_upn, k_wue, k_wun, sI_1, sI_2, sI_3, sI_4, sJ_1, sJ_2, sJ_3, sJ_4, sA_1, sA_2, sA_3, sA_4, sB_1, sB_2, sB_3, sB_4, decide_eq_true_eq, decide_eq_false_iff_not, reduceCtorEq, Int.toNat_natCast, Bool.and_true, mc_tf, List.getD_cons_zero, List.getD_cons_succ, Int.reduceToNat, Int.reduceAdd, Int.reduceSub, Int.reduceMul, Int.reduceNeg, Int.reduceLT, Int.reduceLE, Int.reduceEq, not_true_eq_false, not_false_eq_true, decide_true, decide_false] at h); (try (exfalso; omega))))
    | ((with_reducible apply GoA.sw0))
    | ((with_reducible apply GoA.c); all_goals (intro h; (try simp (disch := omega) only [jJ_lit, jJ_add, jJ_mul, iI_long, jJ_toI, l_lt, l_ge, l_gt, l_le, l_eq, l_ne, jJ_inj, k_ule, k_uln, iI_lit, iI_nat, iI_neg, iI_add, iI_sub, iI_mul, k_lt, k_ge, k_gt, k_le, k_eq, k_ne, k_cl, k_in, iI_inj, k_upe, k_upn, k_wue, k_wun, sI_1, sI_2, sI_3, sI_4, sJ_1, sJ_2, sJ_3, sJ_4, sA_1, sA_2, sA_3, sA_4, sB_1, sB_2, sB_3, sB_4, decide_eq_true_eq, decide_eq_false_iff_not, reduceCtorEq, Int.toNat_natCast, Bool.and_true, mc_tf, List.getD_cons_zero, List.getD_cons_succ, Int.reduceToNat, Int.reduceAdd, Int.reduceSub, Int.reduceMul, Int.reduceNeg, Int.reduceLT, Int.reduceLE, Int.reduceEq, not_true_eq_false, not_false_eq_true, decide_true, decide_false] at h); (try (exfalso; omega))))
  · exact R_int (by rw [show min a b = b by omega]) rfl
  · exact R_int (by rw [show min a b = a by omega]) rfl
/-- sorts and runs behind t spoons -/
def nq (T : tT) (i t q : Nat) : Nat := bif Nat.beq t 0 then q else q ||| (syB (tB T) (tV T 4 i) ||| (tV T 5 i * 32))
theorem nq_ok {T : tT} (hT : TOk T) {i t q : Nat} (hi : i < tN T) (hq : q < 64) : nq T i t q < 64 ∧ nq T i t q % 32 = nS T i t (q % 32) ∧ nq T i t q / 32 = nR T i t (q / 32) := by
  have hi9 := hT.2.2.1 i hi
  have hsy := syB_lt hT.2.2.2 (s := tV T 4 i) (by omega)
  have h := kb_next0 q hq (syB (tB T) (tV T 4 i)) hsy (tV T 5 i) (by omega)
  rw [Nat.or_assoc] at h
  cases t with
  | zero => exact ⟨hq, rfl, rfl⟩
  | succ t => exact h
/-- a go, by the choice at each dish: room, sorts, runs, worth, spoons ahead of the dish i -/
def gg (T : tT) (ch : Nat → Nat → Nat → Nat → Nat) : Nat → Nat × Nat × Nat × Int × Nat
  | 0 => (tP T, 0, 0, 0, 0)
  | i + 1 => ((gg T ch i).1 - ch i (gg T ch i).1 (gg T ch i).2.1 (gg T ch i).2.2.1 * (tV T 2 i + (gg T ch i).2.2.1), nS T i (ch i (gg T ch i).1 (gg T ch i).2.1 (gg T ch i).2.2.1) (gg T ch i).2.1, nR T i (ch i (gg T ch i).1 (gg T ch i).2.1 (gg T ch i).2.2.1) (gg T ch i).2.2.1, (gg T ch i).2.2.2.1 + wf T i (ch i (gg T ch i).1 (gg T ch i).2.1 (gg T ch i).2.2.1), (gg T ch i).2.2.2.2 + ch i (gg T ch i).1 (gg T ch i).2.1 (gg T ch i).2.2.1)
/-- how many of a dish -/
def gt (T : tT) (ch : Nat → Nat → Nat → Nat → Nat) (i : Nat) : Nat := ch i (gg T ch i).1 (gg T ch i).2.1 (gg T ch i).2.2.1
/-- a choice that may be -/
def Ch (T : tT) (ch : Nat → Nat → Nat → Nat → Nat) : Prop := ∀ i room sg ru, ch i room sg ru ≤ mo T i room sg ru
theorem gg_succ (T : tT) (ch : Nat → Nat → Nat → Nat → Nat) (i : Nat) : gg T ch (i + 1) = ((gg T ch i).1 - gt T ch i * (tV T 2 i + (gg T ch i).2.2.1), nS T i (gt T ch i) (gg T ch i).2.1, nR T i (gt T ch i) (gg T ch i).2.2.1, (gg T ch i).2.2.2.1 + wf T i (gt T ch i), (gg T ch i).2.2.2.2 + gt T ch i) := rfl
theorem gg_room (T : tT) (ch : Nat → Nat → Nat → Nat → Nat) : ∀ i, (gg T ch i).1 ≤ tP T
  | 0 => Nat.le_refl _
  | i + 1 => by
    rw [gg_succ]
    have := gg_room T ch i
    show (gg T ch i).1 - _ ≤ tP T
    omega
theorem mo_room {T : tT} {i room sg ru t : Nat} (h : t ≤ mo T i room sg ru) : t * (tV T 2 i + ru) ≤ room := by
  unfold mo at h
  cases hb : sg.testBit (tV T 4 i) with
  | true =>
    rw [hb, cond_true] at h
    obtain rfl : t = 0 := by omega
    omega
  | false =>
    rw [hb, cond_false] at h
    have h2 : t ≤ room / (tV T 2 i + ru) := Nat.le_trans h (Nat.min_le_right _ _)
    exact Nat.le_trans (Nat.mul_le_mul_right _ h2) (Nat.div_mul_le_self _ _)
theorem mo_eq {T : tT} {i room sg ru : Nat} : mo T i room sg ru = bif sg.testBit (tV T 4 i) then 0 else min (tV T 3 i) (room / (tV T 2 i + ru)) := rfl
def GS (σ : wS) (q room : Nat) (wo : Int) (sp : Nat) : Prop := σ.1 4304 = iI (room : Int) ∧ σ.1 4305 = iI wo ∧ σ.1 4306 = iI (sp : Int) ∧ σ.1 4307 = iI (q : Int)
/-- he stands ahead of the dish i -/
def GC (T : tT) (ch : Nat → Nat → Nat → Nat → Nat) (i : Nat) (σ : wS) : Prop := ∃ q, q < 64 ∧ q % 32 = (gg T ch i).2.1 ∧ q / 32 = (gg T ch i).2.2.1 ∧ GS σ q (gg T ch i).1 (gg T ch i).2.2.2.1 (gg T ch i).2.2.2.2 ∧ (∀ j, j < i → σ.2.2.1 44 j = iI (gt T ch j : Int)) ∧ ∀ j, i ≤ j → j < 9 → σ.2.2.1 44 j = iI 0
section
variable {w : Bool} {T : tT} {M : kM} {σ : wS}
set_option maxRecDepth 100000 in
set_option maxHeartbeats 4000000 in
theorem ct_mostOf {D i q room : Nat} {wo : Int} {sp : Nat} (hD : 3 ≤ D) (hT : TOk T) (hX : LX T σ) (hi : i < tN T) (hq : q < 64) (hroom : room ≤ 60) (hG : GS σ q room wo sp) : EvP D 48 [.ref 43, .int (iI (i : Int))] (xX w M σ) (fun R => R = (some (.int (iI (mo T i room (q % 32) (q / 32) : Int))), xX w M σ, 0, 0)) := by
  obtain ⟨D, rfl⟩ : ∃ D', D = D' + 3 := ⟨D - 3, by omega⟩
  have hn9 := hT.1
  have hi9 := hT.2.2.1 i hi
  obtain ⟨x0, x1, x2, x3, x4, x5, x6, x7⟩ := hX.2.2.1 i hi
  obtain ⟨g1, g2, g3, g4⟩ := hG
  have hlow := kb_low0 q hq (tV T 4 i) (by omega)
  have ecl : (iI (i : Int)).toNatClampNeg = i := by
    rw [k_cl (by omega)]
    omega
  have ediv : iI (q : Int) / iI 32 = iI ((q / 32 : Nat) : Int) := by
    rw [iI_div (by omega)]
    congr 1
  have esp : σ.2.2.1 36 (iI (i : Int)).toNatClampNeg + σ.1 4307 / 32 = iI ((tV T 2 i + q / 32 : Nat) : Int) := by
    rw [ecl, x2, g4, iI_lit, ediv, iI_add]
    rfl
  have eroom : iI (room : Int) / iI ((tV T 2 i + q / 32 : Nat) : Int) = iI ((room / (tV T 2 i + q / 32) : Nat) : Int) := by
    rw [iI_div (by omega)]
    rfl
  have hdv : room / (tV T 2 i + q / 32) ≤ room := Nat.div_le_self _ _
  refine EvP.kof (T := tb_X5_mostOf) rfl rfl ?_
  dsimp only [mc_pad, mc_exp]
  cases hbit : (q % 32).testBit (tV T 4 i) with
  | true =>
    rw [hbit] at hlow
    repeat' first
      | ((with_reducible apply GoP.k0); exact rfl; exact rfl)
      | ((with_reducible apply GoP.k1); exact rfl; exact rfl; all_goals (intro h; (try simp (disch := omega) only [jJ_lit, jJ_add, jJ_mul, iI_long, jJ_toI, l_lt, l_ge, l_gt, l_le, l_eq, l_ne, jJ_inj, k_ule, k_uln, iI_lit, iI_nat, iI_neg, iI_add, iI_sub, iI_mul, k_lt, k_ge, k_gt, k_le, k_eq, k_ne, k_cl, k_in, iI_inj, k_upe, k_upn, k_wue, k_wun, sI_1, sI_2, sI_3, sI_4, sJ_1, sJ_2, sJ_3, sJ_4, sA_1, sA_2, sA_3, sA_4, sB_1, sB_2, sB_3, sB_4, decide_eq_true_eq, decide_eq_false_iff_not, reduceCtorEq, Int.toNat_natCast, Bool.and_true, mc_tf, List.getD_cons_zero, List.getD_cons_succ, Int.reduceToNat, Int.reduceAdd, Int.reduceSub, Int.reduceMul, Int.reduceNeg, Int.reduceLT, Int.reduceLE, Int.reduceEq, not_true_eq_false, not_false_eq_true, decide_true, decide_false, x2, x4, g4, ediv, kb_bit, hlow, cond_true] at h); (try (exfalso; omega))))
      | ((with_reducible apply GoP.k2); exact rfl; exact rfl; focus ((simp (disch := omega) only [jJ_lit, jJ_add, jJ_mul, iI_long, jJ_toI, l_lt, l_ge, l_gt, l_le, l_eq, l_ne, jJ_inj, k_ule, k_uln, iI_lit, iI_nat, iI_neg, iI_add, iI_sub, iI_mul, k_lt, k_ge, k_gt, k_le, k_eq, k_ne, k_cl, k_in, iI_inj, k_upe, k_upn, k_wue, k_wun, sI_1, sI_2, sI_3, sI_4, sJ_1, sJ_2, sJ_3, sJ_4, sA_1, sA_2, sA_3, sA_4, sB_1, sB_2, sB_3, sB_4, decide_eq_true_eq, decide_eq_false_iff_not, reduceCtorEq, Int.toNat_natCast, Bool.and_true, mc_tf, List.getD_cons_zero, List.getD_cons_succ, Int.reduceToNat, Int.reduceAdd, Int.reduceSub, Int.reduceMul, Int.reduceNeg, Int.reduceLT, Int.reduceLE, Int.reduceEq, not_true_eq_false, not_false_eq_true, decide_true, decide_false, x2, x4, g4, ediv, kb_bit, hlow, cond_true]) <;> omega))
      | ((with_reducible apply GoP.k3); exact rfl; exact rfl; exact rfl; exact rfl; dsimp only [mc_pad, mc_exp])
      | ((with_reducible apply GoP.k4); exact rfl; exact rfl; exact rfl; try dsimp only [Option.toList, List.cons_append, List.nil_append])
      | ((with_reducible apply GoP.k5); exact rfl; exact rfl)
      | ((with_reducible apply GoA.sw); all_goals (intro h; (try simp (disch := omega) only [jJ_lit, jJ_add, jJ_mul, iI_long, jJ_toI, l_lt, l_ge, l_gt, l_le, l_eq, l_ne, jJ_inj, k_ule, k_uln, iI_lit, iI_nat, iI_neg, iI_add, iI_sub, iI_mul, k_lt, k_ge, k_gt, k_le, k_eq, k_ne, k_cl, k_in, iI_inj, k_upe, k_upn, k_wue, k_wun, sI_1, sI_2, sI_3, sI_4, sJ_1, sJ_2, sJ_3, sJ_4, sA_1, sA_2, sA_3, sA_4, sB_1, sB_2, sB_3, sB_4, decide_eq_true_eq, decide_eq_false_iff_not, reduceCtorEq, Int.toNat_natCast, Bool.and_true, mc_tf, List.getD_cons_zero, List.getD_cons_succ, Int.reduceToNat, Int.reduceAdd, Int.reduceSub, Int.reduceMul, Int.reduceNeg, Int.reduceLT, Int.reduceLE, Int.reduceEq, not_true_eq_false, not_false_eq_true, decide_true, decide_false, x2, x4, g4, ediv, kb_bit, hlow, cond_true] at h); (try (exfalso; omega))))
      | ((with_reducible apply GoA.sw0))
      | ((with_reducible apply GoA.c); all_goals (intro h; (try simp (disch := omega) only [jJ_lit, jJ_add, jJ_mul, iI_long, jJ_toI, l_lt, l_ge, l_gt, l_le, l_eq, l_ne, jJ_inj, k_ule, k_uln, iI_lit, iI_nat, iI_neg, iI_add, iI_sub, iI_mul, k_lt, k_ge, k_gt, k_le, k_eq, k_ne, k_cl, k_in, iI_inj, k_upe, k_upn, k_wue, k_wun, sI_1, sI_2, sI_3, sI_4, sJ_1, sJ_2, sJ_3, sJ_4, sA_1, sA_2, sA_3, sA_4, sB_1, sB_2, sB_3, sB_4, decide_eq_true_eq, decide_eq_false_iff_not, reduceCtorEq, Int.toNat_natCast, Bool.and_true, mc_tf, List.getD_cons_zero, List.getD_cons_succ, Int.reduceToNat, Int.reduceAdd, Int.reduceSub, Int.reduceMul, Int.reduceNeg, Int.reduceLT, Int.reduceLE, Int.reduceEq, not_true_eq_false, not_false_eq_true, decide_true, decide_false, x2, x4, g4, ediv, kb_bit, hlow, cond_true] at h); (try (exfalso; omega))))
      | ((with_reducible apply EvP.kof); exact rfl; exact rfl; dsimp only [mc_pad, mc_exp])
    refine R_int ?_ rfl
    rw [mo_eq, hbit]
    exact iI_lit 0
  | false =>
    rw [hbit] at hlow
    repeat' first
      | ((with_reducible show GoP _ _ (51, _) _); refine Hold.of ?_)
      | ((with_reducible apply GoP.k0); exact rfl; exact rfl)
      | ((with_reducible apply GoP.k1); exact rfl; exact rfl; all_goals (intro h; (try simp (disch := omega) only [jJ_lit, jJ_add, jJ_mul, iI_long, jJ_toI, l_lt, l_ge, l_gt, l_le, l_eq, l_ne, jJ_inj, k_ule, k_uln, iI_lit, iI_nat, iI_neg, iI_add, iI_sub, iI_mul, k_lt, k_ge, k_gt, k_le, k_eq, k_ne, k_cl, k_in, iI_inj, k_upe, k_upn, k_wue, k_wun, sI_1, sI_2, sI_3, sI_4, sJ_1, sJ_2, sJ_3, sJ_4, sA_1, sA_2, sA_3, sA_4, sB_1, sB_2, sB_3, sB_4, decide_eq_true_eq, decide_eq_false_iff_not, reduceCtorEq, Int.toNat_natCast, Bool.and_true, mc_tf, List.getD_cons_zero, List.getD_cons_succ, Int.reduceToNat, Int.reduceAdd, Int.reduceSub, Int.reduceMul, Int.reduceNeg, Int.reduceLT, Int.reduceLE, Int.reduceEq, not_true_eq_false, not_false_eq_true, decide_true, decide_false, x2, x4, g4, ediv, kb_bit, hlow, cond_false, g1, x3] at h); (try (exfalso; omega))))
      | ((with_reducible apply GoP.k2); exact rfl; exact rfl; focus ((simp (disch := omega) only [jJ_lit, jJ_add, jJ_mul, iI_long, jJ_toI, l_lt, l_ge, l_gt, l_le, l_eq, l_ne, jJ_inj, k_ule, k_uln, iI_lit, iI_nat, iI_neg, iI_add, iI_sub, iI_mul, k_lt, k_ge, k_gt, k_le, k_eq, k_ne, k_cl, k_in, iI_inj, k_upe, k_upn, k_wue, k_wun, sI_1, sI_2, sI_3, sI_4, sJ_1, sJ_2, sJ_3, sJ_4, sA_1, sA_2, sA_3, sA_4, sB_1, sB_2, sB_3, sB_4, decide_eq_true_eq, decide_eq_false_iff_not, reduceCtorEq, Int.toNat_natCast, Bool.and_true, mc_tf, List.getD_cons_zero, List.getD_cons_succ, Int.reduceToNat, Int.reduceAdd, Int.reduceSub, Int.reduceMul, Int.reduceNeg, Int.reduceLT, Int.reduceLE, Int.reduceEq, not_true_eq_false, not_false_eq_true, decide_true, decide_false, x2, x4, g4, ediv, kb_bit, hlow, cond_false, g1, x3]) <;> omega))
      | ((with_reducible apply GoP.k3); exact rfl; exact rfl; exact rfl; exact rfl; dsimp only [mc_pad, mc_exp])
      | ((with_reducible apply GoP.k4); exact rfl; exact rfl; exact rfl; try dsimp only [Option.toList, List.cons_append, List.nil_append])
      | ((with_reducible apply GoP.k5); exact rfl; exact rfl)
      | ((with_reducible apply GoA.sw); all_goals (intro h; (try simp (disch := omega) only [jJ_lit, jJ_add, jJ_mul, iI_long, jJ_toI, l_lt, l_ge, l_gt, l_le, l_eq, l_ne, jJ_inj, k_ule, k_uln, iI_lit, iI_nat, iI_neg, iI_add, iI_sub, iI_mul, k_lt, k_ge, k_gt, k_le, k_eq, k_ne, k_cl, k_in, iI_inj, k_upe, k_upn, k_wue, k_wun, sI_1, sI_2, sI_3, sI_4, sJ_1, sJ_2, sJ_3, sJ_4, sA_1, sA_2, sA_3, sA_4, sB_1, sB_2, sB_3, sB_4, decide_eq_true_eq, decide_eq_false_iff_not, reduceCtorEq, Int.toNat_natCast, Bool.and_true, mc_tf, List.getD_cons_zero, List.getD_cons_succ, Int.reduceToNat, Int.reduceAdd, Int.reduceSub, Int.reduceMul, Int.reduceNeg, Int.reduceLT, Int.reduceLE, Int.reduceEq, not_true_eq_false, not_false_eq_true, decide_true, decide_false, x2, x4, g4, ediv, kb_bit, hlow, cond_false, g1, x3] at h); (try (exfalso; omega))))
      | ((with_reducible apply GoA.sw0))
      | ((with_reducible apply GoA.c); all_goals (intro h; (try simp (disch := omega) only [jJ_lit, jJ_add, jJ_mul, iI_long, jJ_toI, l_lt, l_ge, l_gt, l_le, l_eq, l_ne, jJ_inj, k_ule, k_uln, iI_lit, iI_nat, iI_neg, iI_add, iI_sub, iI_mul, k_lt, k_ge, k_gt, k_le, k_eq, k_ne, k_cl, k_in, iI_inj, k_upe, k_upn, k_wue, k_wun, sI_1, sI_2, sI_3, sI_4, sJ_1, sJ_2, sJ_3, sJ_4, sA_1, sA_2, sA_3, sA_4, sB_1, sB_2, sB_3, sB_4, decide_eq_true_eq, decide_eq_false_iff_not, reduceCtorEq, Int.toNat_natCast, Bool.and_true, mc_tf, List.getD_cons_zero, List.getD_cons_succ, Int.reduceToNat, Int.reduceAdd, Int.reduceSub, Int.reduceMul, Int.reduceNeg, Int.reduceLT, Int.reduceLE, Int.reduceEq, not_true_eq_false, not_false_eq_true, decide_true, decide_false, x2, x4, g4, ediv, kb_bit, hlow, cond_false, g1, x3] at h); (try (exfalso; omega))))
      | ((with_reducible apply EvP.kof); exact rfl; exact rfl; dsimp only [mc_pad, mc_exp])
    rw [ecl, x3, g1]
    rw [ecl] at esp
    rw [esp, eroom]
    generalize hrs : room / (tV T 2 i + q / 32) = rs at hdv ⊢
    refine GoP.ke rfl (ct_min (by omega)) ?_
    dsimp only [Option.toList, List.cons_append, List.nil_append]
    repeat' first
      | ((with_reducible apply GoP.k0); exact rfl; exact rfl)
      | ((with_reducible apply GoP.k1); exact rfl; exact rfl; all_goals (intro h; (try simp (disch := omega) only [jJ_lit, jJ_add, jJ_mul, iI_long, jJ_toI, l_lt, l_ge, l_gt, l_le, l_eq, l_ne, jJ_inj, k_ule, k_uln, iI_lit, iI_nat, iI_neg, iI_add, iI_sub, iI_mul, k_lt, k_ge, k_gt, k_le, k_eq, k_ne, k_cl, k_in, iI_inj, k_upe, k_upn, k_wue, k_wun, sI_1, sI_2, sI_3, sI_4, sJ_1, sJ_2, sJ_3, sJ_4, sA_1, sA_2, sA_3, sA_4, sB_1, sB_2, sB_3, sB_4, decide_eq_true_eq, decide_eq_false_iff_not, reduceCtorEq, Int.toNat_natCast, Bool.and_true, mc_tf, List.getD_cons_zero, List.getD_cons_succ, Int.reduceToNat, Int.reduceAdd, Int.reduceSub, Int.reduceMul, Int.reduceNeg, Int.reduceLT, Int.reduceLE, Int.reduceEq, not_true_eq_false, not_false_eq_true, decide_true, decide_false] at h); (try (exfalso; omega))))
      | ((with_reducible apply GoP.k2); exact rfl; exact rfl; focus ((simp (disch := omega) only [jJ_lit, jJ_add, jJ_mul, iI_long, jJ_toI, l_lt, l_ge, l_gt, l_le, l_eq, l_ne, jJ_inj, k_ule, k_uln, iI_lit, iI_nat, iI_neg, iI_add, iI_sub, iI_mul, k_lt, k_ge, k_gt, k_le, k_eq, k_ne, k_cl, k_in, iI_inj, k_upe, k_upn, k_wue, k_wun, sI_1, sI_2, sI_3, sI_4, sJ_1, sJ_2, sJ_3, sJ_4, sA_1, sA_2, sA_3, sA_4, sB_1, sB_2, sB_3, sB_4, decide_eq_true_eq, decide_eq_false_iff_not, reduceCtorEq, Int.toNat_natCast, Bool.and_true, mc_tf, List.getD_cons_zero, List.getD_cons_succ, Int.reduceToNat, Int.reduceAdd, Int.reduceSub, Int.reduceMul, Int.reduceNeg, Int.reduceLT, Int.reduceLE, Int.reduceEq, not_true_eq_false, not_false_eq_true, decide_true, decide_false]) <;> omega))
      | ((with_reducible apply GoP.k4); exact rfl; exact rfl; exact rfl; try dsimp only [Option.toList, List.cons_append, List.nil_append])
      | ((with_reducible apply GoP.k5); exact rfl; exact rfl)
      | ((with_reducible apply GoA.sw); all_goals (intro h; (try simp (disch := omega) only [jJ_lit, jJ_add, jJ_mul, iI_long, jJ_toI, l_lt, l_ge, l_gt, l_le, l_eq, l_ne, jJ_inj, k_ule, k_uln, iI_lit, iI_nat, iI_neg, iI_add, iI_sub, iI_mul, k_lt, k_ge, k_gt, k_le, k_eq, k_ne, k_cl, k_in, iI_inj, k_upe, k_upn, k_wue, k_wun, sI_1, sI_2, sI_3, sI_4, sJ_1, sJ_2, sJ_3, sJ_4, sA_1, sA_2, sA_3, sA_4, sB_1, sB_2, sB_3, sB_4, decide_eq_true_eq, decide_eq_false_iff_not, reduceCtorEq, Int.toNat_natCast, Bool.and_true, mc_tf, List.getD_cons_zero, List.getD_cons_succ, Int.reduceToNat, Int.reduceAdd, Int.reduceSub, Int.reduceMul, Int.reduceNeg, Int.reduceLT, Int.reduceLE, Int.reduceEq, not_true_eq_false, not_false_eq_true, decide_true, decide_false] at h); (try (exfalso; omega))))
      | ((with_reducible apply GoA.sw0))
      | ((with_reducible apply GoA.c); all_goals (intro h; (try simp (disch := omega) only [jJ_lit, jJ_add, jJ_mul, iI_long, jJ_toI, l_lt, l_ge, l_gt, l_le, l_eq, l_ne, jJ_inj, k_ule, k_uln, iI_lit, iI_nat, iI_neg, iI_add, iI_sub, iI_mul, k_lt, k_ge, k_gt, k_le, k_eq, k_ne, k_cl, k_in, iI_inj, k_upe, k_upn, k_wue, k_wun, sI_1, sI_2, sI_3, sI_4, sJ_1, sJ_2, sJ_3, sJ_4, sA_1, sA_2, sA_3, sA_4, sB_1, sB_2, sB_3, sB_4, decide_eq_true_eq, decide_eq_false_iff_not, reduceCtorEq, Int.toNat_natCast, Bool.and_true, mc_tf, List.getD_cons_zero, List.getD_cons_succ, Int.reduceToNat, Int.reduceAdd, Int.reduceSub, Int.reduceMul, Int.reduceNeg, Int.reduceLT, Int.reduceLE, Int.reduceEq, not_true_eq_false, not_false_eq_true, decide_true, decide_false] at h); (try (exfalso; omega))))
    refine R_int ?_ rfl
    rw [mo_eq, hbit, cond_false, hrs]
    congr 1
    omega
set_option maxRecDepth 100000 in
set_option maxHeartbeats 4000000 in
theorem ct_serve {D i q room k : Nat} {wo : Int} {sp : Nat} (hD : 2 ≤ D) (hT : TOk T) (hX : LX T σ) (hi : i < tN T) (hq : q < 64) (hroom : room ≤ 60) (hG : GS σ q room wo sp) (hk : k ≤ mo T i room (q % 32) (q / 32)) : EvP D 49 [.ref 43, .int (iI (i : Int)), .int (iI (k : Int))] (xX w M σ) (fun R => ∃ σ', R = (none, xX w M σ', 0, 0) ∧ GS σ' (nq T i k q) (room - k * (tV T 2 i + q / 32)) (wo + wf T i k) (sp + k) ∧ (∀ j, ¬ j = i → σ'.2.2.1 44 j = σ.2.2.1 44 j) ∧ (σ.2.2.1 44 i = iI 0 → σ'.2.2.1 44 i = iI (k : Int)) ∧ Fr [4304, 4305, 4306, 4307] [] [44] [] σ σ') := by
  obtain ⟨D, rfl⟩ : ∃ D', D = D' + 2 := ⟨D - 2, by omega⟩
  have hn9 := hT.1
  have hi9 := hT.2.2.1 i hi
  obtain ⟨x0, x1, x2, x3, x4, x5, x6, x7⟩ := hX.2.2.1 i hi
  have hkr := mo_room hk
  have hk9 : k ≤ 9 := by have := mo_le (T := T) i room (q % 32) (q / 32); omega
  obtain ⟨g1, g2, g3, g4⟩ := hG
  refine EvP.kof (T := tb_X5_serve) rfl rfl ?_
  dsimp only [mc_pad, mc_exp]
  cases k with
  | zero =>
    repeat' first
      | ((with_reducible apply GoP.k0); exact rfl; exact rfl)
      | ((with_reducible apply GoP.k1); exact rfl; exact rfl; all_goals (intro h; (try simp (disch := omega) only [jJ_lit, jJ_add, jJ_mul, iI_long, jJ_toI, l_lt, l_ge, l_gt, l_le, l_eq, l_ne, jJ_inj, k_ule, k_uln, iI_lit, iI_nat, iI_neg, iI_add, iI_sub, iI_mul, k_lt, k_ge, k_gt, k_le, k_eq, k_ne, k_cl, k_in, iI_inj, k_upe, k_upn, k_wue, k_wun, sI_1, sI_2, sI_3, sI_4, sJ_1, sJ_2, sJ_3, sJ_4, sA_1, sA_2, sA_3, sA_4, sB_1, sB_2, sB_3, sB_4, decide_eq_true_eq, decide_eq_false_iff_not, reduceCtorEq, Int.toNat_natCast, Bool.and_true, mc_tf, List.getD_cons_zero, List.getD_cons_succ, Int.reduceToNat, Int.reduceAdd, Int.reduceSub, Int.reduceMul, Int.reduceNeg, Int.reduceLT, Int.reduceLE, Int.reduceEq, not_true_eq_false, not_false_eq_true, decide_true, decide_false] at h); (try (exfalso; omega))))
      | ((with_reducible apply GoP.k2); exact rfl; exact rfl; focus ((simp (disch := omega) only [jJ_lit, jJ_add, jJ_mul, iI_long, jJ_toI, l_lt, l_ge, l_gt, l_le, l_eq, l_ne, jJ_inj, k_ule, k_uln, iI_lit, iI_nat, iI_neg, iI_add, iI_sub, iI_mul, k_lt, k_ge, k_gt, k_le, k_eq, k_ne, k_cl, k_in, iI_inj, k_upe, k_upn, k_wue, k_wun, sI_1, sI_2, sI_3, sI_4, sJ_1, sJ_2, sJ_3, sJ_4, sA_1, sA_2, sA_3, sA_4, sB_1, sB_2, sB_3, sB_4, decide_eq_true_eq, decide_eq_false_iff_not, reduceCtorEq, Int.toNat_natCast, Bool.and_true, mc_tf, List.getD_cons_zero, List.getD_cons_succ, Int.reduceToNat, Int.reduceAdd, Int.reduceSub, Int.reduceMul, Int.reduceNeg, Int.reduceLT, Int.reduceLE, Int.reduceEq, not_true_eq_false, not_false_eq_true, decide_true, decide_false]) <;> omega))
      | ((with_reducible apply GoP.k3); exact rfl; exact rfl; exact rfl; exact rfl; dsimp only [mc_pad, mc_exp])
      | ((with_reducible apply GoP.k4); exact rfl; exact rfl; exact rfl; try dsimp only [Option.toList, List.cons_append, List.nil_append])
      | ((with_reducible apply GoP.k5); exact rfl; exact rfl)
      | ((with_reducible apply GoA.sw); all_goals (intro h; (try simp (disch := omega) only [jJ_lit, jJ_add, jJ_mul, iI_long, jJ_toI, l_lt, l_ge, l_gt, l_le, l_eq, l_ne, jJ_inj, k_ule, k_uln, iI_lit, iI_nat, iI_neg, iI_add, iI_sub, iI_mul, k_lt, k_ge, k_gt, k_le, k_eq, k_ne, k_cl, k_in, iI_inj, k_upe, k_upn, k_wue, k_wun, sI_1, sI_2, sI_3, sI_4, sJ_1, sJ_2, sJ_3, sJ_4, sA_1, sA_2, sA_3, sA_4, sB_1, sB_2, sB_3, sB_4, decide_eq_true_eq, decide_eq_false_iff_not, reduceCtorEq, Int.toNat_natCast, Bool.and_true, mc_tf, List.getD_cons_zero, List.getD_cons_succ, Int.reduceToNat, Int.reduceAdd, Int.reduceSub, Int.reduceMul, Int.reduceNeg, Int.reduceLT, Int.reduceLE, Int.reduceEq, not_true_eq_false, not_false_eq_true, decide_true, decide_false] at h); (try (exfalso; omega))))
      | ((with_reducible apply GoA.sw0))
      | ((with_reducible apply GoA.c); all_goals (intro h; (try simp (disch := omega) only [jJ_lit, jJ_add, jJ_mul, iI_long, jJ_toI, l_lt, l_ge, l_gt, l_le, l_eq, l_ne, jJ_inj, k_ule, k_uln, iI_lit, iI_nat, iI_neg, iI_add, iI_sub, iI_mul, k_lt, k_ge, k_gt, k_le, k_eq, k_ne, k_cl, k_in, iI_inj, k_upe, k_upn, k_wue, k_wun, sI_1, sI_2, sI_3, sI_4, sJ_1, sJ_2, sJ_3, sJ_4, sA_1, sA_2, sA_3, sA_4, sB_1, sB_2, sB_3, sB_4, decide_eq_true_eq, decide_eq_false_iff_not, reduceCtorEq, Int.toNat_natCast, Bool.and_true, mc_tf, List.getD_cons_zero, List.getD_cons_succ, Int.reduceToNat, Int.reduceAdd, Int.reduceSub, Int.reduceMul, Int.reduceNeg, Int.reduceLT, Int.reduceLE, Int.reduceEq, not_true_eq_false, not_false_eq_true, decide_true, decide_false] at h); (try (exfalso; omega))))
      | ((with_reducible apply EvP.kof); exact rfl; exact rfl; dsimp only [mc_pad, mc_exp])
    refine ⟨σ, rfl, ?_, fun _ _ => rfl, fun h => h, Fr.rf⟩
    rw [wf_0, Int.add_zero, Nat.zero_mul]
    exact ⟨g1, g2, g3, g4⟩
  | succ k =>
    have ecl : (iI (i : Int)).toNatClampNeg = i := by
      rw [k_cl (by omega)]
      omega
    have ecl4 : (iI (tV T 4 i : Int)).toNatClampNeg = tV T 4 i := by
      rw [k_cl (by omega)]
      omega
    have hb42 := hX.2.2.2 (tV T 4 i) (by omega)
    have ediv : iI (q : Int) / iI 32 = iI ((q / 32 : Nat) : Int) := by
      rw [iI_div (by omega)]
      congr 1
    obtain ⟨z1, z2, z3⟩ := nq_ok hT hi hq (t := k + 1)
    repeat' first
      | ((with_reducible apply GoP.k0); exact rfl; exact rfl)
      | ((with_reducible apply GoP.k1); exact rfl; exact rfl; all_goals (intro h; (try simp (disch := omega) only [jJ_lit, jJ_add, jJ_mul, iI_long, jJ_toI, l_lt, l_ge, l_gt, l_le, l_eq, l_ne, jJ_inj, k_ule, k_uln, iI_lit, iI_nat, iI_neg, iI_add, iI_sub, iI_mul, k_lt, k_ge, k_gt, k_le, k_eq, k_ne, k_cl, k_in, iI_inj, k_upe, k_upn, k_wue, k_wun, sI_1, sI_2, sI_3, sI_4, sJ_1, sJ_2, sJ_3, sJ_4, sA_1, sA_2, sA_3, sA_4, sB_1, sB_2, sB_3, sB_4, decide_eq_true_eq, decide_eq_false_iff_not, reduceCtorEq, Int.toNat_natCast, Bool.and_true, mc_tf, List.getD_cons_zero, List.getD_cons_succ, Int.reduceToNat, Int.reduceAdd, Int.reduceSub, Int.reduceMul, Int.reduceNeg, Int.reduceLT, Int.reduceLE, Int.reduceEq, not_true_eq_false, not_false_eq_true, decide_true, decide_false, x4] at h); (try (exfalso; omega))))
      | ((with_reducible apply GoP.k2); exact rfl; exact rfl; focus ((simp (disch := omega) only [jJ_lit, jJ_add, jJ_mul, iI_long, jJ_toI, l_lt, l_ge, l_gt, l_le, l_eq, l_ne, jJ_inj, k_ule, k_uln, iI_lit, iI_nat, iI_neg, iI_add, iI_sub, iI_mul, k_lt, k_ge, k_gt, k_le, k_eq, k_ne, k_cl, k_in, iI_inj, k_upe, k_upn, k_wue, k_wun, sI_1, sI_2, sI_3, sI_4, sJ_1, sJ_2, sJ_3, sJ_4, sA_1, sA_2, sA_3, sA_4, sB_1, sB_2, sB_3, sB_4, decide_eq_true_eq, decide_eq_false_iff_not, reduceCtorEq, Int.toNat_natCast, Bool.and_true, mc_tf, List.getD_cons_zero, List.getD_cons_succ, Int.reduceToNat, Int.reduceAdd, Int.reduceSub, Int.reduceMul, Int.reduceNeg, Int.reduceLT, Int.reduceLE, Int.reduceEq, not_true_eq_false, not_false_eq_true, decide_true, decide_false, x4]) <;> omega))
      | ((with_reducible apply GoP.k3); exact rfl; exact rfl; exact rfl; exact rfl; dsimp only [mc_pad, mc_exp])
      | ((with_reducible apply GoP.k4); exact rfl; exact rfl; exact rfl; try dsimp only [Option.toList, List.cons_append, List.nil_append])
      | ((with_reducible apply GoP.k5); exact rfl; exact rfl)
      | ((with_reducible apply GoA.sw); all_goals (intro h; (try simp (disch := omega) only [jJ_lit, jJ_add, jJ_mul, iI_long, jJ_toI, l_lt, l_ge, l_gt, l_le, l_eq, l_ne, jJ_inj, k_ule, k_uln, iI_lit, iI_nat, iI_neg, iI_add, iI_sub, iI_mul, k_lt, k_ge, k_gt, k_le, k_eq, k_ne, k_cl, k_in, iI_inj, k_upe, k_upn, k_wue, k_wun, sI_1, sI_2, sI_3, sI_4, sJ_1, sJ_2, sJ_3, sJ_4, sA_1, sA_2, sA_3, sA_4, sB_1, sB_2, sB_3, sB_4, decide_eq_true_eq, decide_eq_false_iff_not, reduceCtorEq, Int.toNat_natCast, Bool.and_true, mc_tf, List.getD_cons_zero, List.getD_cons_succ, Int.reduceToNat, Int.reduceAdd, Int.reduceSub, Int.reduceMul, Int.reduceNeg, Int.reduceLT, Int.reduceLE, Int.reduceEq, not_true_eq_false, not_false_eq_true, decide_true, decide_false, x4] at h); (try (exfalso; omega))))
      | ((with_reducible apply GoA.sw0))
      | ((with_reducible apply GoA.c); all_goals (intro h; (try simp (disch := omega) only [jJ_lit, jJ_add, jJ_mul, iI_long, jJ_toI, l_lt, l_ge, l_gt, l_le, l_eq, l_ne, jJ_inj, k_ule, k_uln, iI_lit, iI_nat, iI_neg, iI_add, iI_sub, iI_mul, k_lt, k_ge, k_gt, k_le, k_eq, k_ne, k_cl, k_in, iI_inj, k_upe, k_upn, k_wue, k_wun, sI_1, sI_2, sI_3, sI_4, sJ_1, sJ_2, sJ_3, sJ_4, sA_1, sA_2, sA_3, sA_4, sB_1, sB_2, sB_3, sB_4, decide_eq_true_eq, decide_eq_false_iff_not, reduceCtorEq, Int.toNat_natCast, Bool.and_true, mc_tf, List.getD_cons_zero, List.getD_cons_succ, Int.reduceToNat, Int.reduceAdd, Int.reduceSub, Int.reduceMul, Int.reduceNeg, Int.reduceLT, Int.reduceLE, Int.reduceEq, not_true_eq_false, not_false_eq_true, decide_true, decide_false, x4] at h); (try (exfalso; omega))))
      | ((with_reducible apply EvP.kof); exact rfl; exact rfl; dsimp only [mc_pad, mc_exp])
    refine ⟨sI (sI (sI (sI (sA σ 44 (upd (σ.2.2.1 44) (iI (i : Int)).toNatClampNeg (iI ((k + 1 : Nat) : Int)))) 4306 _) 4305 _) 4304 _) 4307 _, rfl, ⟨?_, ?_, ?_, ?_⟩, ?_, ?_, ?_⟩
    · show σ.1 4304 - iI ((k + 1 : Nat) : Int) * (σ.2.2.1 36 (iI (i : Int)).toNatClampNeg + σ.1 4307 / 32) = _
      rw [ecl, g1, g4, x2, iI_lit, ediv, iI_add, iI_mul, iI_sub]
      congr 1
      have : (((k + 1) * (tV T 2 i + q / 32) : Nat) : Int) = ((k + 1 : Nat) : Int) * ((tV T 2 i : Int) + ((q / 32 : Nat) : Int)) := by
        rw [Int.natCast_mul, Int.natCast_add (tV T 2 i)]
      omega
    · show σ.1 4305 + (iI ((k + 1 : Nat) : Int) * σ.2.2.1 34 (iI (i : Int)).toNatClampNeg - iI ((k + 1 : Nat) : Int) * (iI ((k + 1 : Nat) : Int) - 1) / 2 * σ.2.2.1 35 (iI (i : Int)).toNatClampNeg) = _
      have e1 : iI ((k + 1 : Nat) : Int) * (iI ((k + 1 : Nat) : Int) - 1) / 2 = iI (((k + 1) * (k + 1 - 1) / 2 : Nat) : Int) := by
        have hkk : (k + 1) * k ≤ 9 * 9 := Nat.mul_le_mul hk9 (by omega)
        have e3 : ((k + 1 : Nat) : Int) * (((k + 1 : Nat) : Int) - 1) = (((k + 1) * k : Nat) : Int) := by
          rw [Int.natCast_mul]
          congr 1
          omega
        rw [iI_lit, iI_lit, iI_sub, iI_mul, e3, iI_div (by omega)]
        rfl
      rw [e1, ecl, g2, x0, x1, iI_mul, iI_mul, iI_sub, iI_add]
      rfl
    · show σ.1 4306 + iI ((k + 1 : Nat) : Int) = _
      rw [g3, iI_add]
      rfl
    · show σ.1 4307 ||| (σ.2.2.1 42 (σ.2.2.1 38 (iI (i : Int)).toNatClampNeg).toNatClampNeg ||| σ.2.2.1 39 (iI (i : Int)).toNatClampNeg * 32) = _
      have e32 : (32 : Int32) = iI ((32 : Nat) : Int) := iI_lit 32
      have emul : iI (tV T 5 i : Int) * iI ((32 : Nat) : Int) = iI ((tV T 5 i * 32 : Nat) : Int) := by
        rw [iI_mul]
        rfl
      rw [ecl, x4, ecl4, hb42, x5, g4, e32, emul, iI_or, iI_or]
      rfl
    · intro j hj
      show upd (σ.2.2.1 44) (iI (i : Int)).toNatClampNeg (iI ((k + 1 : Nat) : Int)) j = _
      rw [ecl]
      exact k_upn hj
    · intro _
      show upd (σ.2.2.1 44) (iI (i : Int)).toNatClampNeg (iI ((k + 1 : Nat) : Int)) i = _
      rw [ecl]
      exact k_upe rfl
    · exact ((((Fr.sA (by decide)).tr (Fr.sI (by decide))).tr (Fr.sI (by decide))).tr (Fr.sI (by decide))).tr (Fr.sI (by decide))
/-- one dish further -/
theorem GC.step {ch : Nat → Nat → Nat → Nat → Nat} {i q : Nat} {σ' : wS} (hT : TOk T) (hi : i < tN T) (hq : q < 64) (e1 : q % 32 = (gg T ch i).2.1) (e2 : q / 32 = (gg T ch i).2.2.1) (hlt : ∀ j, j < i → σ.2.2.1 44 j = iI (gt T ch j : Int)) (hge : ∀ j, i ≤ j → j < 9 → σ.2.2.1 44 j = iI 0) (h1 : GS σ' (nq T i (gt T ch i) q) ((gg T ch i).1 - gt T ch i * (tV T 2 i + q / 32)) ((gg T ch i).2.2.2.1 + wf T i (gt T ch i)) ((gg T ch i).2.2.2.2 + gt T ch i)) (h2 : ∀ j, ¬ j = i → σ'.2.2.1 44 j = σ.2.2.1 44 j) (h3 : σ.2.2.1 44 i = iI 0 → σ'.2.2.1 44 i = iI (gt T ch i : Int)) : GC T ch (i + 1) σ' := by
  have hn9 := hT.1
  obtain ⟨z1, z2, z3⟩ := nq_ok hT hi hq (t := gt T ch i)
  refine ⟨nq T i (gt T ch i) q, z1, ?_, ?_, ?_, fun j hj => ?_, fun j h4 h5 => ?_⟩
  · rw [z2, gg_succ, e1]
  · rw [z3, gg_succ, e2]
  · rw [gg_succ]
    rw [e2] at h1
    exact h1
  · by_cases hji : j = i
    · rw [hji]
      exact h3 (hge i (Nat.le_refl _) (by omega))
    · rw [h2 j hji]
      exact hlt j (by omega)
  · rw [h2 j (by omega)]
    exact hge j (by omega) h5
end
