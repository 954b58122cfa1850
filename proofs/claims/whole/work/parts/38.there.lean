section
variable {T : tT} {p : Nat} {c : Nat → Nat} {e st : Nat} {w : Bool}
theorem pw_8 : ∀ m : Nat, m < 9 → ((12 : Nat) : Int) ^ m ≤ 429981696 ∧ 0 ≤ ((12 : Nat) : Int) ^ m := by decide
theorem PC.pow (hpc : PC T p c e) {m : Nat} (hm : m < 9) : (p : Int) ^ m ≤ 429981696 ∧ 0 ≤ (p : Int) ^ m := by
  rcases hpc with ⟨rfl, _⟩ | ⟨rfl, _⟩
  · rw [show ((1 : Nat) : Int) = 1 from rfl, Int.one_pow]
    omega
  · exact pw_8 m hm
theorem tri_le : ∀ t, t ≤ 9 → t * (t - 1) / 2 ≤ 36 := by decide
theorem wf_ge {i t : Nat} (hL : tV T 1 i ≤ 9) (ht : t ≤ 9) : -324 ≤ wf T i t := by
  unfold wf
  have h1 : (0 : Int) ≤ (t : Int) * (tV T 0 i : Int) := Int.mul_nonneg (by omega) (by omega)
  have h2 : ((t * (t - 1) / 2 : Nat) : Int) * (tV T 1 i : Int) ≤ 36 * 9 := Int.mul_le_mul (by have := tri_le t ht; omega) (by omega) (by omega) (by omega)
  omega
theorem fF_rng (hT : TOk T) (he : e ≤ tN T) (hpc : PC T p c e) {m i room sg ru t : Nat} (hi : i + m + 1 ≤ e) (ht : t ≤ 9) : (-139314069504 ≤ fF T p c m i room sg ru t ∧ fF T p c m i room sg ru t ≤ 8436240875521) := by
  have he9 := hT.1
  obtain ⟨hp1, hp2⟩ := hpc.pow (m := m) (by omega)
  have hi9 := hT.2.2.1 i (by omega)
  have h1 : wf T i t * (p : Int) ^ m ≤ 180 * (p : Int) ^ m := Int.mul_le_mul_of_nonneg_right (wf_le hi9.1 ht) hp2
  have h2 : -324 * (p : Int) ^ m ≤ wf T i t * (p : Int) ^ m := Int.mul_le_mul_of_nonneg_right (wf_ge hi9.2.1 ht) hp2
  obtain ⟨wv, hwv, hwl⟩ := va_wv hT he hpc (m := m) (i := i + 1) (by omega) (room - t * (tV T 2 i + ru)) (nS T i t sg) (nR T i t ru)
  unfold fF
  rw [hwv]
  omega
theorem mo_le (i room sg ru : Nat) : mo T i room sg ru ≤ tV T 3 i := by
  unfold mo
  cases sg.testBit (tV T 4 i) with
  | true => exact Nat.zero_le _
  | false => exact Nat.min_le_left _ _
theorem KM.ch {M : kM} {σ : wS} (x : Int32) (hK : KM st M σ) : KM st M (sI σ 4509 x) := by
  obtain ⟨K, hT, hv, h1, hmet, hcnt, hbl, hinj, hg, hst2, hst3, hz⟩ := hK
  exact ⟨K, hT.mv rfl, hv, h1, hmet, hcnt, hbl, hinj, hg, hst2, hst3, hz⟩
theorem Fm.ch {σ : wS} (x : Int32) : Fm σ (sI σ 4509 x) := ⟨fun k _ h => (k_wun h : wu σ.1 4509 x k = σ.1 k), rfl, fun _ _ => rfl, fun _ _ => rfl⟩
set_option maxRecDepth 100000 in
set_option maxHeartbeats 4000000 in
theorem wW_loop (hT : TOk T) (he : e ≤ tN T) (hpc : PC T p c e) {m D i room q q' : Nat} {M0 : kM} {σ0 : wS} (hF : pF T p c e st w m) (hD : 2 * m + 4 ≤ D + 1) (hi : i + m + 1 = e) (hroom : room ≤ 60) (hq : q < 64) (hq' : q' < 64) (hq1 : q' % 32 = (q % 32) ||| syB (tB T) (tV T 4 i)) (hq2 : q' / 32 = (q / 32) ||| tV T 5 i) (hnb : (q % 32).testBit (tV T 4 i) = false) : ∀ (n j : Nat) (M : kM) (σ : wS) (cc nn : Nat) (sw rest : Int) (x17 x18 : Option Value), j + n = tV T 3 i → j ≤ mo T i room (q % 32) (q / 32) → KM st M σ → CU T p c e st M → LX T σ → LK T p e σ → cc + gM M0 = gM M → nn + 2196 * 2 ^ gM M0 = 2196 * 2 ^ gM M → Fm σ0 σ → (∀ t, ¬ bM M0 t = 0 → bM M t = bM M0 t) → sw = (tV T 0 i : Int) - (j : Int) * (tV T 1 i : Int) → rest = (room : Int) - ((j : Int) + 1) * ((tV T 2 i + q / 32 : Nat) : Int) → GoP (D + 1) tb_X0_worthIfThere (134, [some (.ref 45), some (.int (iI (i : Int))), some (.int (iI (room : Int))), some (.int (iI (q : Int))), some (.long (jJ (pk (fF T p c m i room (q % 32) (q / 32)) j).1)), none, some (.int (iI ((pk (fF T p c m i room (q % 32) (q / 32)) j).2 : Int))), some (.int (iI (tV T 4 i : Int))), some (.int (iI (tV T 1 i : Int))), some (.int (iI (tV T 3 i : Int))), some (.int (iI (q' : Int))), some (.int (iI ((tV T 2 i + q / 32 : Nat) : Int))), some (.int (iI sw)), some (.int (iI rest)), some (.long (jJ (wf T i j * (p : Int) ^ m))), none, some (.int (iI ((j + 1 : Nat) : Int))), x17, x18], [], xX w M σ, cc, nn) (rF T p c e st w M0 σ0 (some (.long (jJ (bs T p c m i room (q % 32) (q / 32)).1))) (fun σ' => σ'.1 4509 = iI ((bs T p c m i room (q % 32) (q / 32)).2 : Int))) := by
  have he9 := hT.1
  have hi9 := hT.2.2.1 i (by omega)
  intro n
  induction n with
  | zero =>
    intro j M σ cc nn sw rest x17 x18 hjn hj hK hC hX hL hcc hnn hFm hP hsw hrest
    have hbs : bs T p c m i room (q % 32) (q / 32) = pk (fF T p c m i room (q % 32) (q / 32)) j := bs_cut hpc.le (fun j hj => ((hT.2.2.1 j (by omega)).2.2.1).1) hj (Or.inl (by have := mo_le (T := T) i room (q % 32) (q / 32); omega))
    rw [hbs]
    repeat' first
      | ((with_reducible apply GoP.k0); exact rfl; exact rfl)
      | ((with_reducible apply GoP.k1); exact rfl; exact rfl; all_goals (intro h; (try simp (disch := omega) only [jJ_lit, jJ_add, jJ_mul, iI_long, jJ_toI, l_lt, l_ge, l_gt, l_le, l_eq, l_ne, jJ_inj, k_ule, k_uln, iI_lit, iI_nat, iI_neg, iI_add, iI_sub, iI_mul, k_lt, k_ge, k_gt, k_le, k_eq, k_ne, k_cl, k_in, iI_inj, k_upe, k_upn, k_wue, k_wun, sI_1, sI_2, sI_3, sI_4, sJ_1, sJ_2, sJ_3, sJ_4, sA_1, sA_2, sA_3, sA_4, sB_1, sB_2, sB_3, sB_4, decide_eq_true_eq, decide_eq_false_iff_not, reduceCtorEq, Int.toNat_natCast, Bool.and_true, mc_tf, List.getD_cons_zero, List.getD_cons_succ, Int.reduceToNat, Int.reduceAdd, Int.reduceSub, Int.reduceMul, Int.reduceNeg, Int.reduceLT, Int.reduceLE, Int.reduceEq, not_true_eq_false, not_false_eq_true, decide_true, decide_false] at h); (try (exfalso; omega))))
      | ((with_reducible apply GoP.k2); exact rfl; exact rfl; focus ((simp (disch := omega) only [jJ_lit, jJ_add, jJ_mul, iI_long, jJ_toI, l_lt, l_ge, l_gt, l_le, l_eq, l_ne, jJ_inj, k_ule, k_uln, iI_lit, iI_nat, iI_neg, iI_add, iI_sub, iI_mul, k_lt, k_ge, k_gt, k_le, k_eq, k_ne, k_cl, k_in, iI_inj, k_upe, k_upn, k_wue, k_wun, sI_1, sI_2, sI_3, sI_4, sJ_1, sJ_2, sJ_3, sJ_4, sA_1, sA_2, sA_3, sA_4, sB_1, sB_2, sB_3, sB_4, decide_eq_true_eq, decide_eq_false_iff_not, reduceCtorEq, Int.toNat_natCast, Bool.and_true, mc_tf, List.getD_cons_zero, List.getD_cons_succ, Int.reduceToNat, Int.reduceAdd, Int.reduceSub, Int.reduceMul, Int.reduceNeg, Int.reduceLT, Int.reduceLE, Int.reduceEq, not_true_eq_false, not_false_eq_true, decide_true, decide_false]) <;> omega))
      | ((with_reducible apply GoP.k4); exact rfl; exact rfl; exact rfl; try dsimp only [Option.toList, List.cons_append, List.nil_append])
      | ((with_reducible apply GoP.k5); exact rfl; exact rfl)
      | ((with_reducible apply GoA.sw); all_goals (intro h; (try simp (disch := omega) only [jJ_lit, jJ_add, jJ_mul, iI_long, jJ_toI, l_lt, l_ge, l_gt, l_le, l_eq, l_ne, jJ_inj, k_ule, k_uln, iI_lit, iI_nat, iI_neg, iI_add, iI_sub, iI_mul, k_lt, k_ge, k_gt, k_le, k_eq, k_ne, k_cl, k_in, iI_inj, k_upe, k_upn, k_wue, k_wun, sI_1, sI_2, sI_3, sI_4, sJ_1, sJ_2, sJ_3, sJ_4, sA_1, sA_2, sA_3, sA_4, sB_1, sB_2, sB_3, sB_4, decide_eq_true_eq, decide_eq_false_iff_not, reduceCtorEq, Int.toNat_natCast, Bool.and_true, mc_tf, List.getD_cons_zero, List.getD_cons_succ, Int.reduceToNat, Int.reduceAdd, Int.reduceSub, Int.reduceMul, Int.reduceNeg, Int.reduceLT, Int.reduceLE, Int.reduceEq, not_true_eq_false, not_false_eq_true, decide_true, decide_false] at h); (try (exfalso; omega))))
      | ((with_reducible apply GoA.sw0))
      | ((with_reducible apply GoA.c); all_goals (intro h; (try simp (disch := omega) only [jJ_lit, jJ_add, jJ_mul, iI_long, jJ_toI, l_lt, l_ge, l_gt, l_le, l_eq, l_ne, jJ_inj, k_ule, k_uln, iI_lit, iI_nat, iI_neg, iI_add, iI_sub, iI_mul, k_lt, k_ge, k_gt, k_le, k_eq, k_ne, k_cl, k_in, iI_inj, k_upe, k_upn, k_wue, k_wun, sI_1, sI_2, sI_3, sI_4, sJ_1, sJ_2, sJ_3, sJ_4, sA_1, sA_2, sA_3, sA_4, sB_1, sB_2, sB_3, sB_4, decide_eq_true_eq, decide_eq_false_iff_not, reduceCtorEq, Int.toNat_natCast, Bool.and_true, mc_tf, List.getD_cons_zero, List.getD_cons_succ, Int.reduceToNat, Int.reduceAdd, Int.reduceSub, Int.reduceMul, Int.reduceNeg, Int.reduceLT, Int.reduceLE, Int.reduceEq, not_true_eq_false, not_false_eq_true, decide_true, decide_false] at h); (try (exfalso; omega))))
    exact ⟨M, sI σ 4509 (iI ((pk (fF T p c m i room (q % 32) (q / 32)) j).2 : Int)), cc, nn, rfl, hcc, hnn, hK.ch _, hC, hFm.tr (Fm.ch _), hP, rfl⟩
  | succ n ih =>
    intro j M σ cc nn sw rest x17 x18 hjn hj hK hC hX hL hcc hnn hFm hP hsw hrest
    have hS10 : tV T 2 i + q / 32 ≤ 10 := by omega
    have hjS : ((j : Int) + 1) * ((tV T 2 i + q / 32 : Nat) : Int) ≤ 10 * 10 := Int.mul_le_mul (by omega) (by omega) (by omega) (by omega)
    have hjS0 : (0 : Int) ≤ ((j : Int) + 1) * ((tV T 2 i + q / 32 : Nat) : Int) := Int.mul_nonneg (by omega) (by omega)
    have hjL : (j : Int) * (tV T 1 i : Int) ≤ 9 * 9 := Int.mul_le_mul (by omega) (by omega) (by omega) (by omega)
    have hjL0 : (0 : Int) ≤ (j : Int) * (tV T 1 i : Int) := Int.mul_nonneg (by omega) (by omega)
    have hcut : (rest < 0 ∨ sw ≤ 0) → bs T p c m i room (q % 32) (q / 32) = pk (fF T p c m i room (q % 32) (q / 32)) j := by
      intro hor
      refine bs_cut hpc.le (fun j hj => ((hT.2.2.1 j (by omega)).2.2.1).1) hj ?_
      rcases hor with h1 | h1
      · refine Or.inl (Nat.le_antisymm hj ?_)
        unfold mo
        rw [hnb, cond_false]
        refine Nat.le_trans (Nat.min_le_right _ _) (Nat.le_of_lt_succ ((Nat.div_lt_iff_lt_mul (by omega)).mpr ?_))
        have : ((room : Nat) : Int) < ((j.succ * (tV T 2 i + q / 32) : Nat) : Int) := by
          rw [Int.natCast_mul, Int.natCast_succ]
          omega
        omega
      · exact Or.inr (by omega)
    have hsc := (hL.2.2 i (by omega)).2
    rw [show e - 1 - i = m by omega] at hsc
    repeat' first
      | ((with_reducible apply GoP.k0); exact rfl; exact rfl)
      | ((with_reducible apply GoP.k1); exact rfl; exact rfl; all_goals (intro h; (try simp (disch := omega) only [jJ_lit, jJ_add, jJ_mul, iI_long, jJ_toI, l_lt, l_ge, l_gt, l_le, l_eq, l_ne, jJ_inj, k_ule, k_uln, iI_lit, iI_nat, iI_neg, iI_add, iI_sub, iI_mul, k_lt, k_ge, k_gt, k_le, k_eq, k_ne, k_cl, k_in, iI_inj, k_upe, k_upn, k_wue, k_wun, sI_1, sI_2, sI_3, sI_4, sJ_1, sJ_2, sJ_3, sJ_4, sA_1, sA_2, sA_3, sA_4, sB_1, sB_2, sB_3, sB_4, decide_eq_true_eq, decide_eq_false_iff_not, reduceCtorEq, Int.toNat_natCast, Bool.and_true, mc_tf, List.getD_cons_zero, List.getD_cons_succ, Int.reduceToNat, Int.reduceAdd, Int.reduceSub, Int.reduceMul, Int.reduceNeg, Int.reduceLT, Int.reduceLE, Int.reduceEq, not_true_eq_false, not_false_eq_true, decide_true, decide_false] at h); (try (exfalso; omega))))
      | ((with_reducible apply GoP.k2); exact rfl; exact rfl; focus ((simp (disch := omega) only [jJ_lit, jJ_add, jJ_mul, iI_long, jJ_toI, l_lt, l_ge, l_gt, l_le, l_eq, l_ne, jJ_inj, k_ule, k_uln, iI_lit, iI_nat, iI_neg, iI_add, iI_sub, iI_mul, k_lt, k_ge, k_gt, k_le, k_eq, k_ne, k_cl, k_in, iI_inj, k_upe, k_upn, k_wue, k_wun, sI_1, sI_2, sI_3, sI_4, sJ_1, sJ_2, sJ_3, sJ_4, sA_1, sA_2, sA_3, sA_4, sB_1, sB_2, sB_3, sB_4, decide_eq_true_eq, decide_eq_false_iff_not, reduceCtorEq, Int.toNat_natCast, Bool.and_true, mc_tf, List.getD_cons_zero, List.getD_cons_succ, Int.reduceToNat, Int.reduceAdd, Int.reduceSub, Int.reduceMul, Int.reduceNeg, Int.reduceLT, Int.reduceLE, Int.reduceEq, not_true_eq_false, not_false_eq_true, decide_true, decide_false]) <;> omega))
      | ((with_reducible apply GoP.k4); exact rfl; exact rfl; exact rfl; try dsimp only [Option.toList, List.cons_append, List.nil_append])
      | ((with_reducible apply GoP.k5); exact rfl; exact rfl)
      | ((with_reducible apply GoA.sw); all_goals (intro h; (try simp (disch := omega) only [jJ_lit, jJ_add, jJ_mul, iI_long, jJ_toI, l_lt, l_ge, l_gt, l_le, l_eq, l_ne, jJ_inj, k_ule, k_uln, iI_lit, iI_nat, iI_neg, iI_add, iI_sub, iI_mul, k_lt, k_ge, k_gt, k_le, k_eq, k_ne, k_cl, k_in, iI_inj, k_upe, k_upn, k_wue, k_wun, sI_1, sI_2, sI_3, sI_4, sJ_1, sJ_2, sJ_3, sJ_4, sA_1, sA_2, sA_3, sA_4, sB_1, sB_2, sB_3, sB_4, decide_eq_true_eq, decide_eq_false_iff_not, reduceCtorEq, Int.toNat_natCast, Bool.and_true, mc_tf, List.getD_cons_zero, List.getD_cons_succ, Int.reduceToNat, Int.reduceAdd, Int.reduceSub, Int.reduceMul, Int.reduceNeg, Int.reduceLT, Int.reduceLE, Int.reduceEq, not_true_eq_false, not_false_eq_true, decide_true, decide_false] at h); (try (exfalso; omega))))
      | ((with_reducible apply GoA.sw0))
      | ((with_reducible apply GoA.c); all_goals (intro h; (try simp (disch := omega) only [jJ_lit, jJ_add, jJ_mul, iI_long, jJ_toI, l_lt, l_ge, l_gt, l_le, l_eq, l_ne, jJ_inj, k_ule, k_uln, iI_lit, iI_nat, iI_neg, iI_add, iI_sub, iI_mul, k_lt, k_ge, k_gt, k_le, k_eq, k_ne, k_cl, k_in, iI_inj, k_upe, k_upn, k_wue, k_wun, sI_1, sI_2, sI_3, sI_4, sJ_1, sJ_2, sJ_3, sJ_4, sA_1, sA_2, sA_3, sA_4, sB_1, sB_2, sB_3, sB_4, decide_eq_true_eq, decide_eq_false_iff_not, reduceCtorEq, Int.toNat_natCast, Bool.and_true, mc_tf, List.getD_cons_zero, List.getD_cons_succ, Int.reduceToNat, Int.reduceAdd, Int.reduceSub, Int.reduceMul, Int.reduceNeg, Int.reduceLT, Int.reduceLE, Int.reduceEq, not_true_eq_false, not_false_eq_true, decide_true, decide_false] at h); (try (exfalso; omega))))
    · rw [hcut (Or.inl (by omega))]
      exact ⟨M, sI σ 4509 (iI ((pk (fF T p c m i room (q % 32) (q / 32)) j).2 : Int)), cc, nn, rfl, hcc, hnn, hK.ch _, hC, hFm.tr (Fm.ch _), hP, rfl⟩
    · rw [hcut (Or.inr (by omega))]
      exact ⟨M, sI σ 4509 (iI ((pk (fF T p c m i room (q % 32) (q / 32)) j).2 : Int)), cc, nn, rfl, hcc, hnn, hK.ch _, hC, hFm.tr (Fm.ch _), hP, rfl⟩
    · obtain ⟨rr, hrr⟩ := Int.eq_ofNat_of_zero_le (show 0 ≤ rest by omega)
      have hrr2 : room - (j + 1) * (tV T 2 i + q / 32) = rr := by
        have : (((j + 1) * (tV T 2 i + q / 32) : Nat) : Int) = ((j : Int) + 1) * ((tV T 2 i + q / 32 : Nat) : Int) := by
          rw [Int.natCast_mul, Int.natCast_succ]
        omega
      have hjm : j + 1 ≤ mo T i room (q % 32) (q / 32) := by
        unfold mo
        rw [hnb, cond_false]
        refine Nat.le_min.mpr ⟨by omega, (Nat.le_div_iff_mul_le (by omega)).mpr ?_⟩
        have : (((j + 1) * (tV T 2 i + q / 32) : Nat) : Int) = ((j : Int) + 1) * ((tV T 2 i + q / 32 : Nat) : Int) := by
          rw [Int.natCast_mul, Int.natCast_succ]
        omega
      have esum : jJ (wf T i j * (p : Int) ^ m) + (iI sw).toInt64 * σ.2.2.2 49 (iI (i : Int)).toNatClampNeg = jJ (wf T i (j + 1) * (p : Int) ^ m) := by
        simp (disch := omega) only [jJ_lit, jJ_add, jJ_mul, iI_long, jJ_toI, l_lt, l_ge, l_gt, l_le, l_eq, l_ne, jJ_inj, k_ule, k_uln, iI_lit, iI_nat, iI_neg, iI_add, iI_sub, iI_mul, k_lt, k_ge, k_gt, k_le, k_eq, k_ne, k_cl, k_in, iI_inj, k_upe, k_upn, k_wue, k_wun, sI_1, sI_2, sI_3, sI_4, sJ_1, sJ_2, sJ_3, sJ_4, sA_1, sA_2, sA_3, sA_4, sB_1, sB_2, sB_3, sB_4, decide_eq_true_eq, decide_eq_false_iff_not, reduceCtorEq, Int.toNat_natCast, Bool.and_true, mc_tf, List.getD_cons_zero, List.getD_cons_succ, Int.reduceToNat, Int.reduceAdd, Int.reduceSub, Int.reduceMul, Int.reduceNeg, Int.reduceLT, Int.reduceLE, Int.reduceEq, not_true_eq_false, not_false_eq_true, decide_true, decide_false, hsc]
        rw [wf_succ, hsw, Int.add_mul]
      have ei : iI (i : Int) + 1 = iI ((i + 1 : Nat) : Int) := by
        rw [iI_lit, iI_add]
        rfl
      rw [esum, ei, hrr]
      refine GoP.kc rfl (hF (D + 1) (i + 1) rr q' M σ hD (by omega) (by omega) hq' hK hC hX hL) ?_
      rintro R ⟨M2, σ2, c2, n2, rfl, hc2, hn2, hK2, hC2, hF2, hP2, -⟩
      dsimp only [Option.toList, List.cons_append, List.nil_append]
      have ef : jJ (wf T i (j + 1) * (p : Int) ^ m) + jJ (va T p c m (i + 1) rr (q' % 32) (q' / 32)) = jJ (fF T p c m i room (q % 32) (q / 32) (j + 1)) := by
        rw [jJ_add]
        unfold fF
        rw [nS_s, nR_s, ← hq1, ← hq2, hrr2]
      refine GoP.st1 rfl ?_
      rw [ef]
      have hjr1 := fF_rng hT he hpc (m := m) (i := i) (room := room) (sg := q % 32) (ru := q / 32) (t := j + 1) (by omega) (by omega)
      have hjr2 : -139314069504 ≤ (pk (fF T p c m i room (q % 32) (q / 32)) j).1 ∧ (pk (fF T p c m i room (q % 32) (q / 32)) j).1 ≤ 8436240875521 := by
        obtain ⟨h1, h2⟩ := pk_at (fF T p c m i room (q % 32) (q / 32)) j
        rw [← h1]
        exact fF_rng hT he hpc (by omega) (by omega)
      have e4 : iI (rr : Int) - iI ((tV T 2 i + q / 32 : Nat) : Int) = iI ((rr : Int) - ((tV T 2 i + q / 32 : Nat) : Int)) := iI_sub _ _
      have e5 : iI ((j + 1 : Nat) : Int) + 1 = iI ((j + 1 + 1 : Nat) : Int) := by
        rw [iI_lit, iI_add]
        rfl
      have hrest' : ((rr : Int) - ((tV T 2 i + q / 32 : Nat) : Int)) = (room : Int) - (((j + 1 : Nat) : Int) + 1) * ((tV T 2 i + q / 32 : Nat) : Int) := by
        rw [Int.add_mul, Int.natCast_succ]
        omega
      have hsw' : sw - (tV T 1 i : Int) = (tV T 0 i : Int) - ((j + 1 : Nat) : Int) * (tV T 1 i : Int) := by
        rw [Int.natCast_succ, Int.add_mul]
        omega
      have hnext := fun x17 x18 => ih (j + 1) M2 σ2 (cc + c2) (nn + n2) (sw - (tV T 1 i : Int)) ((rr : Int) - ((tV T 2 i + q / 32 : Nat) : Int)) x17 x18 (by omega) hjm hK2 hC2 (hX.mv hF2) (hL.mv hF2) (by omega) (by omega) (hFm.tr hF2) (fun t ht => by rw [hP2 t (by rw [hP t ht]; exact ht), hP t ht]) hsw' hrest'
      repeat' first
        | ((with_reducible show GoP _ _ (134, _) _); refine Hold.of ?_)
        | ((with_reducible apply GoP.k0); exact rfl; exact rfl)
        | ((with_reducible apply GoP.k1); exact rfl; exact rfl; all_goals (intro h; (try simp (disch := omega) only [jJ_lit, jJ_add, jJ_mul, iI_long, jJ_toI, l_lt, l_ge, l_gt, l_le, l_eq, l_ne, jJ_inj, k_ule, k_uln, iI_lit, iI_nat, iI_neg, iI_add, iI_sub, iI_mul, k_lt, k_ge, k_gt, k_le, k_eq, k_ne, k_cl, k_in, iI_inj, k_upe, k_upn, k_wue, k_wun, sI_1, sI_2, sI_3, sI_4, sJ_1, sJ_2, sJ_3, sJ_4, sA_1, sA_2, sA_3, sA_4, sB_1, sB_2, sB_3, sB_4, decide_eq_true_eq, decide_eq_false_iff_not, reduceCtorEq, Int.toNat_natCast, Bool.and_true, mc_tf, List.getD_cons_zero, List.getD_cons_succ, Int.reduceToNat, Int.reduceAdd, Int.reduceSub, Int.reduceMul, Int.reduceNeg, Int.reduceLT, Int.reduceLE, Int.reduceEq, not_true_eq_false, not_false_eq_true, decide_true, decide_false] at h); (try (exfalso; omega))))
        | ((with_reducible apply GoP.k2); exact rfl; exact rfl; focus ((simp (disch := omega) only [jJ_lit, jJ_add, jJ_mul, iI_long, jJ_toI, l_lt, l_ge, l_gt, l_le, l_eq, l_ne, jJ_inj, k_ule, k_uln, iI_lit, iI_nat, iI_neg, iI_add, iI_sub, iI_mul, k_lt, k_ge, k_gt, k_le, k_eq, k_ne, k_cl, k_in, iI_inj, k_upe, k_upn, k_wue, k_wun, sI_1, sI_2, sI_3, sI_4, sJ_1, sJ_2, sJ_3, sJ_4, sA_1, sA_2, sA_3, sA_4, sB_1, sB_2, sB_3, sB_4, decide_eq_true_eq, decide_eq_false_iff_not, reduceCtorEq, Int.toNat_natCast, Bool.and_true, mc_tf, List.getD_cons_zero, List.getD_cons_succ, Int.reduceToNat, Int.reduceAdd, Int.reduceSub, Int.reduceMul, Int.reduceNeg, Int.reduceLT, Int.reduceLE, Int.reduceEq, not_true_eq_false, not_false_eq_true, decide_true, decide_false]) <;> omega))
        | ((with_reducible apply GoP.k4); exact rfl; exact rfl; exact rfl; try dsimp only [Option.toList, List.cons_append, List.nil_append])
        | ((with_reducible apply GoP.k5); exact rfl; exact rfl)
        | ((with_reducible apply GoA.sw); all_goals (intro h; (try simp (disch := omega) only [jJ_lit, jJ_add, jJ_mul, iI_long, jJ_toI, l_lt, l_ge, l_gt, l_le, l_eq, l_ne, jJ_inj, k_ule, k_uln, iI_lit, iI_nat, iI_neg, iI_add, iI_sub, iI_mul, k_lt, k_ge, k_gt, k_le, k_eq, k_ne, k_cl, k_in, iI_inj, k_upe, k_upn, k_wue, k_wun, sI_1, sI_2, sI_3, sI_4, sJ_1, sJ_2, sJ_3, sJ_4, sA_1, sA_2, sA_3, sA_4, sB_1, sB_2, sB_3, sB_4, decide_eq_true_eq, decide_eq_false_iff_not, reduceCtorEq, Int.toNat_natCast, Bool.and_true, mc_tf, List.getD_cons_zero, List.getD_cons_succ, Int.reduceToNat, Int.reduceAdd, Int.reduceSub, Int.reduceMul, Int.reduceNeg, Int.reduceLT, Int.reduceLE, Int.reduceEq, not_true_eq_false, not_false_eq_true, decide_true, decide_false] at h); (try (exfalso; omega))))
        | ((with_reducible apply GoA.sw0))
        | ((with_reducible apply GoA.c); all_goals (intro h; (try simp (disch := omega) only [jJ_lit, jJ_add, jJ_mul, iI_long, jJ_toI, l_lt, l_ge, l_gt, l_le, l_eq, l_ne, jJ_inj, k_ule, k_uln, iI_lit, iI_nat, iI_neg, iI_add, iI_sub, iI_mul, k_lt, k_ge, k_gt, k_le, k_eq, k_ne, k_cl, k_in, iI_inj, k_upe, k_upn, k_wue, k_wun, sI_1, sI_2, sI_3, sI_4, sJ_1, sJ_2, sJ_3, sJ_4, sA_1, sA_2, sA_3, sA_4, sB_1, sB_2, sB_3, sB_4, decide_eq_true_eq, decide_eq_false_iff_not, reduceCtorEq, Int.toNat_natCast, Bool.and_true, mc_tf, List.getD_cons_zero, List.getD_cons_succ, Int.reduceToNat, Int.reduceAdd, Int.reduceSub, Int.reduceMul, Int.reduceNeg, Int.reduceLT, Int.reduceLE, Int.reduceEq, not_true_eq_false, not_false_eq_true, decide_true, decide_false] at h); (try (exfalso; omega))))
      · rw [iI_sub, iI_sub, e5]
        have epk : pk (fF T p c m i room (q % 32) (q / 32)) (j + 1) = pk (fF T p c m i room (q % 32) (q / 32)) j := by rw [pk_succ, if_neg (by omega)]
        rw [epk] at hnext
        exact hnext _ _
      · rw [iI_sub, iI_sub, e5]
        have epk : pk (fF T p c m i room (q % 32) (q / 32)) (j + 1) = (fF T p c m i room (q % 32) (q / 32) (j + 1), j + 1) := by rw [pk_succ, if_pos (by omega)]
        rw [epk] at hnext
        exact hnext _ _
set_option maxRecDepth 100000 in
set_option maxHeartbeats 4000000 in
theorem pW_of (hT : TOk T) (he : e ≤ tN T) (hpc : PC T p c e) {m : Nat} (hF : pF T p c e st w m) : pW T p c e st w m := by
  intro D i room q M σ hD hi hroom hq hK hC hX hL
  obtain ⟨D, rfl⟩ : ∃ D', D = D' + 2 := ⟨D - 2, by omega⟩
  have he9 := hT.1
  have hi9 := hT.2.2.1 i (by omega)
  refine EvP.kof (T := tb_X0_worthIfThere) rfl rfl ?_
  dsimp only [mc_pad, mc_exp]
  repeat' first
    | ((with_reducible apply GoP.k0); exact rfl; exact rfl)
    | ((with_reducible apply GoP.k1); exact rfl; exact rfl; all_goals (intro h; (try simp (disch := omega) only [jJ_lit, jJ_add, jJ_mul, iI_long, jJ_toI, l_lt, l_ge, l_gt, l_le, l_eq, l_ne, jJ_inj, k_ule, k_uln, iI_lit, iI_nat, iI_neg, iI_add, iI_sub, iI_mul, k_lt, k_ge, k_gt, k_le, k_eq, k_ne, k_cl, k_in, iI_inj, k_upe, k_upn, k_wue, k_wun, sI_1, sI_2, sI_3, sI_4, sJ_1, sJ_2, sJ_3, sJ_4, sA_1, sA_2, sA_3, sA_4, sB_1, sB_2, sB_3, sB_4, decide_eq_true_eq, decide_eq_false_iff_not, reduceCtorEq, Int.toNat_natCast, Bool.and_true, mc_tf, List.getD_cons_zero, List.getD_cons_succ, Int.reduceToNat, Int.reduceAdd, Int.reduceSub, Int.reduceMul, Int.reduceNeg, Int.reduceLT, Int.reduceLE, Int.reduceEq, not_true_eq_false, not_false_eq_true, decide_true, decide_false] at h); (try (exfalso; omega))))
    | ((with_reducible apply GoP.k2); exact rfl; exact rfl; focus ((simp (disch := omega) only [jJ_lit, jJ_add, jJ_mul, iI_long, jJ_toI, l_lt, l_ge, l_gt, l_le, l_eq, l_ne, jJ_inj, k_ule, k_uln, iI_lit, iI_nat, iI_neg, iI_add, iI_sub, iI_mul, k_lt, k_ge, k_gt, k_le, k_eq, k_ne, k_cl, k_in, iI_inj, k_upe, k_upn, k_wue, k_wun, sI_1, sI_2, sI_3, sI_4, sJ_1, sJ_2, sJ_3, sJ_4, sA_1, sA_2, sA_3, sA_4, sB_1, sB_2, sB_3, sB_4, decide_eq_true_eq, decide_eq_false_iff_not, reduceCtorEq, Int.toNat_natCast, Bool.and_true, mc_tf, List.getD_cons_zero, List.getD_cons_succ, Int.reduceToNat, Int.reduceAdd, Int.reduceSub, Int.reduceMul, Int.reduceNeg, Int.reduceLT, Int.reduceLE, Int.reduceEq, not_true_eq_false, not_false_eq_true, decide_true, decide_false]) <;> omega))
    | ((with_reducible apply GoP.k4); exact rfl; exact rfl; exact rfl; try dsimp only [Option.toList, List.cons_append, List.nil_append])
    | ((with_reducible apply GoP.k5); exact rfl; exact rfl)
    | ((with_reducible apply GoA.sw); all_goals (intro h; (try simp (disch := omega) only [jJ_lit, jJ_add, jJ_mul, iI_long, jJ_toI, l_lt, l_ge, l_gt, l_le, l_eq, l_ne, jJ_inj, k_ule, k_uln, iI_lit, iI_nat, iI_neg, iI_add, iI_sub, iI_mul, k_lt, k_ge, k_gt, k_le, k_eq, k_ne, k_cl, k_in, iI_inj, k_upe, k_upn, k_wue, k_wun, sI_1, sI_2, sI_3, sI_4, sJ_1, sJ_2, sJ_3, sJ_4, sA_1, sA_2, sA_3, sA_4, sB_1, sB_2, sB_3, sB_4, decide_eq_true_eq, decide_eq_false_iff_not, reduceCtorEq, Int.toNat_natCast, Bool.and_true, mc_tf, List.getD_cons_zero, List.getD_cons_succ, Int.reduceToNat, Int.reduceAdd, Int.reduceSub, Int.reduceMul, Int.reduceNeg, Int.reduceLT, Int.reduceLE, Int.reduceEq, not_true_eq_false, not_false_eq_true, decide_true, decide_false] at h); (try (exfalso; omega))))
    | ((with_reducible apply GoA.sw0))
    | ((with_reducible apply GoA.c); all_goals (intro h; (try simp (disch := omega) only [jJ_lit, jJ_add, jJ_mul, iI_long, jJ_toI, l_lt, l_ge, l_gt, l_le, l_eq, l_ne, jJ_inj, k_ule, k_uln, iI_lit, iI_nat, iI_neg, iI_add, iI_sub, iI_mul, k_lt, k_ge, k_gt, k_le, k_eq, k_ne, k_cl, k_in, iI_inj, k_upe, k_upn, k_wue, k_wun, sI_1, sI_2, sI_3, sI_4, sJ_1, sJ_2, sJ_3, sJ_4, sA_1, sA_2, sA_3, sA_4, sB_1, sB_2, sB_3, sB_4, decide_eq_true_eq, decide_eq_false_iff_not, reduceCtorEq, Int.toNat_natCast, Bool.and_true, mc_tf, List.getD_cons_zero, List.getD_cons_succ, Int.reduceToNat, Int.reduceAdd, Int.reduceSub, Int.reduceMul, Int.reduceNeg, Int.reduceLT, Int.reduceLE, Int.reduceEq, not_true_eq_false, not_false_eq_true, decide_true, decide_false] at h); (try (exfalso; omega))))
  rw [show iI (i : Int) + 1 = iI ((i + 1 : Nat) : Int) by rw [iI_lit, iI_add]; rfl]
  refine GoP.kc rfl (hF (D + 1) (i + 1) room q M σ (by omega) (by omega) hroom hq hK hC hX hL) ?_
  rintro R ⟨M2, σ2, c2, n2, rfl, hc2, hn2, hK2, hC2, hF2, hP2, -⟩
  dsimp only [Option.toList, List.cons_append, List.nil_append]
  have hX2 := hX.mv hF2
  have hL2 := hL.mv hF2
  obtain ⟨x0, x1, x2, x3, x4, x5, x6, x7⟩ := hX2.2.2.1 i (by omega)
  have hlow := kb_low0 q hq (tV T 4 i) (by omega)
  have hb42 := hX2.2.2.2 (tV T 4 i) (by omega)
  have e0 : (bs T p c m i room (q % 32) (q / 32)) = pk (fF T p c m i room (q % 32) (q / 32)) (mo T i room (q % 32) (q / 32)) := rfl
  have e1 : pk (fF T p c m i room (q % 32) (q / 32)) 0 = (va T p c m (i + 1) room (q % 32) (q / 32), 0) := by
    rw [← fF_0]
    rfl
  cases hbit : (q % 32).testBit (tV T 4 i) with
  | true =>
    rw [hbit] at hlow
    have hmo : mo T i room (q % 32) (q / 32) = 0 := by
      unfold mo
      rw [hbit]
      rfl
    rw [hmo] at e0
    rw [e0, e1]
    repeat' first
      | ((with_reducible apply GoP.k0); exact rfl; exact rfl)
      | ((with_reducible apply GoP.k1); exact rfl; exact rfl; all_goals (intro h; (try simp (disch := omega) only [jJ_lit, jJ_add, jJ_mul, iI_long, jJ_toI, l_lt, l_ge, l_gt, l_le, l_eq, l_ne, jJ_inj, k_ule, k_uln, iI_lit, iI_nat, iI_neg, iI_add, iI_sub, iI_mul, k_lt, k_ge, k_gt, k_le, k_eq, k_ne, k_cl, k_in, iI_inj, k_upe, k_upn, k_wue, k_wun, sI_1, sI_2, sI_3, sI_4, sJ_1, sJ_2, sJ_3, sJ_4, sA_1, sA_2, sA_3, sA_4, sB_1, sB_2, sB_3, sB_4, decide_eq_true_eq, decide_eq_false_iff_not, reduceCtorEq, Int.toNat_natCast, Bool.and_true, mc_tf, List.getD_cons_zero, List.getD_cons_succ, Int.reduceToNat, Int.reduceAdd, Int.reduceSub, Int.reduceMul, Int.reduceNeg, Int.reduceLT, Int.reduceLE, Int.reduceEq, not_true_eq_false, not_false_eq_true, decide_true, decide_false, x4, kb_bit, hlow, cond_true] at h); (try (exfalso; omega))))
      | ((with_reducible apply GoP.k2); exact rfl; exact rfl; focus ((simp (disch := omega) only [jJ_lit, jJ_add, jJ_mul, iI_long, jJ_toI, l_lt, l_ge, l_gt, l_le, l_eq, l_ne, jJ_inj, k_ule, k_uln, iI_lit, iI_nat, iI_neg, iI_add, iI_sub, iI_mul, k_lt, k_ge, k_gt, k_le, k_eq, k_ne, k_cl, k_in, iI_inj, k_upe, k_upn, k_wue, k_wun, sI_1, sI_2, sI_3, sI_4, sJ_1, sJ_2, sJ_3, sJ_4, sA_1, sA_2, sA_3, sA_4, sB_1, sB_2, sB_3, sB_4, decide_eq_true_eq, decide_eq_false_iff_not, reduceCtorEq, Int.toNat_natCast, Bool.and_true, mc_tf, List.getD_cons_zero, List.getD_cons_succ, Int.reduceToNat, Int.reduceAdd, Int.reduceSub, Int.reduceMul, Int.reduceNeg, Int.reduceLT, Int.reduceLE, Int.reduceEq, not_true_eq_false, not_false_eq_true, decide_true, decide_false, x4, kb_bit, hlow, cond_true]) <;> omega))
      | ((with_reducible apply GoP.k4); exact rfl; exact rfl; exact rfl; try dsimp only [Option.toList, List.cons_append, List.nil_append])
      | ((with_reducible apply GoP.k5); exact rfl; exact rfl)
      | ((with_reducible apply GoA.sw); all_goals (intro h; (try simp (disch := omega) only [jJ_lit, jJ_add, jJ_mul, iI_long, jJ_toI, l_lt, l_ge, l_gt, l_le, l_eq, l_ne, jJ_inj, k_ule, k_uln, iI_lit, iI_nat, iI_neg, iI_add, iI_sub, iI_mul, k_lt, k_ge, k_gt, k_le, k_eq, k_ne, k_cl, k_in, iI_inj, k_upe, k_upn, k_wue, k_wun, sI_1, sI_2, sI_3, sI_4, sJ_1, sJ_2, sJ_3, sJ_4, sA_1, sA_2, sA_3, sA_4, sB_1, sB_2, sB_3, sB_4, decide_eq_true_eq, decide_eq_false_iff_not, reduceCtorEq, Int.toNat_natCast, Bool.and_true, mc_tf, List.getD_cons_zero, List.getD_cons_succ, Int.reduceToNat, Int.reduceAdd, Int.reduceSub, Int.reduceMul, Int.reduceNeg, Int.reduceLT, Int.reduceLE, Int.reduceEq, not_true_eq_false, not_false_eq_true, decide_true, decide_false, x4, kb_bit, hlow, cond_true] at h); (try (exfalso; omega))))
      | ((with_reducible apply GoA.sw0))
      | ((with_reducible apply GoA.c); all_goals (intro h; (try simp (disch := omega) only [jJ_lit, jJ_add, jJ_mul, iI_long, jJ_toI, l_lt, l_ge, l_gt, l_le, l_eq, l_ne, jJ_inj, k_ule, k_uln, iI_lit, iI_nat, iI_neg, iI_add, iI_sub, iI_mul, k_lt, k_ge, k_gt, k_le, k_eq, k_ne, k_cl, k_in, iI_inj, k_upe, k_upn, k_wue, k_wun, sI_1, sI_2, sI_3, sI_4, sJ_1, sJ_2, sJ_3, sJ_4, sA_1, sA_2, sA_3, sA_4, sB_1, sB_2, sB_3, sB_4, decide_eq_true_eq, decide_eq_false_iff_not, reduceCtorEq, Int.toNat_natCast, Bool.and_true, mc_tf, List.getD_cons_zero, List.getD_cons_succ, Int.reduceToNat, Int.reduceAdd, Int.reduceSub, Int.reduceMul, Int.reduceNeg, Int.reduceLT, Int.reduceLE, Int.reduceEq, not_true_eq_false, not_false_eq_true, decide_true, decide_false, x4, kb_bit, hlow, cond_true] at h); (try (exfalso; omega))))
    exact ⟨M2, sI σ2 4509 0, _, _, rfl, by omega, by omega, hK2.ch _, hC2, hF2.tr (Fm.ch _), hP2, iI_lit 0⟩
  | false =>
    rw [hbit] at hlow
    have hsy := syB_lt hT.2.2.2 (s := tV T 4 i) (by omega)
    obtain ⟨n1, n2', n3⟩ := kb_next0 q hq (syB (tB T) (tV T 4 i)) hsy (tV T 5 i) (by omega)
    repeat' first
      | ((with_reducible show GoP _ _ (134, _) _); refine Hold.of ?_)
      | ((with_reducible apply GoP.k0); exact rfl; exact rfl)
      | ((with_reducible apply GoP.k1); exact rfl; exact rfl; all_goals (intro h; (try simp (disch := omega) only [jJ_lit, jJ_add, jJ_mul, iI_long, jJ_toI, l_lt, l_ge, l_gt, l_le, l_eq, l_ne, jJ_inj, k_ule, k_uln, iI_lit, iI_nat, iI_neg, iI_add, iI_sub, iI_mul, k_lt, k_ge, k_gt, k_le, k_eq, k_ne, k_cl, k_in, iI_inj, k_upe, k_upn, k_wue, k_wun, sI_1, sI_2, sI_3, sI_4, sJ_1, sJ_2, sJ_3, sJ_4, sA_1, sA_2, sA_3, sA_4, sB_1, sB_2, sB_3, sB_4, decide_eq_true_eq, decide_eq_false_iff_not, reduceCtorEq, Int.toNat_natCast, Bool.and_true, mc_tf, List.getD_cons_zero, List.getD_cons_succ, Int.reduceToNat, Int.reduceAdd, Int.reduceSub, Int.reduceMul, Int.reduceNeg, Int.reduceLT, Int.reduceLE, Int.reduceEq, not_true_eq_false, not_false_eq_true, decide_true, decide_false, x4, kb_bit, hlow, cond_false] at h); (try (exfalso; omega))))
      | ((with_reducible apply GoP.k2); exact rfl; exact rfl; focus ((simp (disch := omega) only [jJ_lit, jJ_add, jJ_mul, iI_long, jJ_toI, l_lt, l_ge, l_gt, l_le, l_eq, l_ne, jJ_inj, k_ule, k_uln, iI_lit, iI_nat, iI_neg, iI_add, iI_sub, iI_mul, k_lt, k_ge, k_gt, k_le, k_eq, k_ne, k_cl, k_in, iI_inj, k_upe, k_upn, k_wue, k_wun, sI_1, sI_2, sI_3, sI_4, sJ_1, sJ_2, sJ_3, sJ_4, sA_1, sA_2, sA_3, sA_4, sB_1, sB_2, sB_3, sB_4, decide_eq_true_eq, decide_eq_false_iff_not, reduceCtorEq, Int.toNat_natCast, Bool.and_true, mc_tf, List.getD_cons_zero, List.getD_cons_succ, Int.reduceToNat, Int.reduceAdd, Int.reduceSub, Int.reduceMul, Int.reduceNeg, Int.reduceLT, Int.reduceLE, Int.reduceEq, not_true_eq_false, not_false_eq_true, decide_true, decide_false, x4, kb_bit, hlow, cond_false]) <;> omega))
      | ((with_reducible apply GoP.k4); exact rfl; exact rfl; exact rfl; try dsimp only [Option.toList, List.cons_append, List.nil_append])
      | ((with_reducible apply GoP.k5); exact rfl; exact rfl)
      | ((with_reducible apply GoA.sw); all_goals (intro h; (try simp (disch := omega) only [jJ_lit, jJ_add, jJ_mul, iI_long, jJ_toI, l_lt, l_ge, l_gt, l_le, l_eq, l_ne, jJ_inj, k_ule, k_uln, iI_lit, iI_nat, iI_neg, iI_add, iI_sub, iI_mul, k_lt, k_ge, k_gt, k_le, k_eq, k_ne, k_cl, k_in, iI_inj, k_upe, k_upn, k_wue, k_wun, sI_1, sI_2, sI_3, sI_4, sJ_1, sJ_2, sJ_3, sJ_4, sA_1, sA_2, sA_3, sA_4, sB_1, sB_2, sB_3, sB_4, decide_eq_true_eq, decide_eq_false_iff_not, reduceCtorEq, Int.toNat_natCast, Bool.and_true, mc_tf, List.getD_cons_zero, List.getD_cons_succ, Int.reduceToNat, Int.reduceAdd, Int.reduceSub, Int.reduceMul, Int.reduceNeg, Int.reduceLT, Int.reduceLE, Int.reduceEq, not_true_eq_false, not_false_eq_true, decide_true, decide_false, x4, kb_bit, hlow, cond_false] at h); (try (exfalso; omega))))
      | ((with_reducible apply GoA.sw0))
      | ((with_reducible apply GoA.c); all_goals (intro h; (try simp (disch := omega) only [jJ_lit, jJ_add, jJ_mul, iI_long, jJ_toI, l_lt, l_ge, l_gt, l_le, l_eq, l_ne, jJ_inj, k_ule, k_uln, iI_lit, iI_nat, iI_neg, iI_add, iI_sub, iI_mul, k_lt, k_ge, k_gt, k_le, k_eq, k_ne, k_cl, k_in, iI_inj, k_upe, k_upn, k_wue, k_wun, sI_1, sI_2, sI_3, sI_4, sJ_1, sJ_2, sJ_3, sJ_4, sA_1, sA_2, sA_3, sA_4, sB_1, sB_2, sB_3, sB_4, decide_eq_true_eq, decide_eq_false_iff_not, reduceCtorEq, Int.toNat_natCast, Bool.and_true, mc_tf, List.getD_cons_zero, List.getD_cons_succ, Int.reduceToNat, Int.reduceAdd, Int.reduceSub, Int.reduceMul, Int.reduceNeg, Int.reduceLT, Int.reduceLE, Int.reduceEq, not_true_eq_false, not_false_eq_true, decide_true, decide_false, x4, kb_bit, hlow, cond_false] at h); (try (exfalso; omega))))
    have ecl : (iI (i : Int)).toNatClampNeg = i := by
      rw [k_cl (by omega)]
      omega
    have ecl2 : (iI (tV T 4 i : Int)).toNatClampNeg = tV T 4 i := by
      rw [k_cl (by omega)]
      omega
    have e32 : (32 : Int32) = iI ((32 : Nat) : Int) := iI_lit 32
    have ediv : iI (q : Int) / iI ((32 : Nat) : Int) = iI ((q / 32 : Nat) : Int) := by
      rw [iI_div (by omega)]
      congr 1
    have eadd : iI (tV T 2 i : Int) + iI ((q / 32 : Nat) : Int) = iI ((tV T 2 i + q / 32 : Nat) : Int) := by
      rw [iI_add]
      congr 1
    have emul : iI (tV T 5 i : Int) * iI ((32 : Nat) : Int) = iI ((tV T 5 i * 32 : Nat) : Int) := by
      rw [iI_mul]
      congr 1
    rw [ecl, x0, x1, x2, x3, x4, x5, ecl2, hb42, e32, ediv, eadd, emul, iI_or, iI_or, iI_sub]
    have hl := wW_loop hT he hpc hF (D := D) (i := i) (room := room) (q := q) (q' := (q ||| syB (tB T) (tV T 4 i)) ||| tV T 5 i * 32) (M0 := M) (σ0 := σ) (by omega) hi hroom hq n1 n2' n3 hbit (tV T 3 i) 0 M2 σ2 (0 + c2) (0 + n2) (tV T 0 i : Int) ((room : Int) - ((tV T 2 i + q / 32 : Nat) : Int)) none none (by omega) (Nat.zero_le _) hK2 hC2 hX2 hL2 (by omega) (by omega) hF2 hP2 (by simp) (by simp)
    rw [e1, wf_0, Int.zero_mul] at hl
    exact hl
end
