/-! The law of both. -/
/-- the law in force: none yet, or the same in both -/
def I_W (w : Bool) (σ μ : wS) : Prop := (σ.1 1605 = 0 ∧ μ.1 24 = 0) ∨ (σ.1 1605 = 1 ∧ μ.1 24 = 1 ∧ ∃ C ms : List (Int × Int), WL C ms ∧ C.length ≤ 120 ∧ ms.length ≤ 61 ∧ (rwL (fun x => x) (σ.2.2.1 (cwA (!w))) (σ.2.2.1 (cwB (!w))) C ∧ rwL (fun x => x) (σ.2.2.1 (cwF (!w))) (σ.2.2.1 (cwE (!w))) ms ∧ σ.1 (cwN (!w)) = iI (ms.length : Int)) ∧ rwL enM (μ.2.2.1 8) (μ.2.2.1 9) C ∧ rwL (fun x => x) (μ.2.2.1 11) (μ.2.2.1 12) ms ∧ μ.2.2.1 10 0 = iI (ms.length : Int))
section
variable {w : Bool} {M : kM} {σ μ : wS}
set_option maxRecDepth 100000 in
set_option maxHeartbeats 8000000 in
theorem ct_verd0 {D : Nat} {a b c d e f : Int32} (hD : 6 ≤ D) (h0 : σ.1 1605 = 0) : EvP D 58 [.ref 16, .int a, .int b, .int c, .int d, .int e, .int f] (xX w M σ) (fun R => ∃ v : Int32, R = (some (.int v), xX w M σ, 0, 0) ∧ (v = 0 ↔ decide ((0 : Int32) < a) = false)) := by
  obtain ⟨D, rfl⟩ : ∃ D', D = D' + 1 := ⟨D - 1, by omega⟩
  obtain ⟨x, hx1, hx2, rfl⟩ := iI_ex a
  by_cases hx : 0 < x
  · refine EvP.kof (T := tb_X6_verdict) rfl rfl ?_
    dsimp only [mc_pad, mc_exp]
    repeat' first
      | ((with_reducible apply GoP.k0); exact rfl; exact rfl)
      | ((with_reducible apply GoP.k1); exact rfl; exact rfl; all_goals (intro h; (try simp (disch := omega) only [jJ_lit, jJ_add, jJ_mul, iI_long, jJ_toI, l_lt, l_ge, l_gt, l_le, l_eq, l_ne, jJ_inj, k_ule, k_uln, iI_lit, iI_nat, iI_neg, iI_add, iI_sub, iI_mul, k_lt, k_ge, k_gt, k_le, k_eq, k_ne, k_cl, k_in, iI_inj, k_upe, k_upn, k_wue, k_wun, sI_1, sI_2, sI_3, sI_4, sJ_1, sJ_2, sJ_3, sJ_4, sA_1, sA_2, sA_3, sA_4, sB_1, sB_2, sB_3, sB_4, decide_eq_true_eq, decide_eq_false_iff_not, reduceCtorEq, Int.toNat_natCast, Bool.and_true, mc_tf, List.getD_cons_zero, List.getD_cons_succ, Int.reduceToNat, Int.reduceAdd, Int.reduceSub, Int.reduceMul, Int.reduceNeg, Int.reduceLT, Int.reduceLE, Int.reduceEq, not_true_eq_false, not_false_eq_true, decide_true, decide_false, h0] at h); (try (exfalso; omega))))
      | ((with_reducible apply GoP.k2); exact rfl; exact rfl; focus ((simp (disch := omega) only [jJ_lit, jJ_add, jJ_mul, iI_long, jJ_toI, l_lt, l_ge, l_gt, l_le, l_eq, l_ne, jJ_inj, k_ule, k_uln, iI_lit, iI_nat, iI_neg, iI_add, iI_sub, iI_mul, k_lt, k_ge, k_gt, k_le, k_eq, k_ne, k_cl, k_in, iI_inj, k_upe, k_upn, k_wue, k_wun, sI_1, sI_2, sI_3, sI_4, sJ_1, sJ_2, sJ_3, sJ_4, sA_1, sA_2, sA_3, sA_4, sB_1, sB_2, sB_3, sB_4, decide_eq_true_eq, decide_eq_false_iff_not, reduceCtorEq, Int.toNat_natCast, Bool.and_true, mc_tf, List.getD_cons_zero, List.getD_cons_succ, Int.reduceToNat, Int.reduceAdd, Int.reduceSub, Int.reduceMul, Int.reduceNeg, Int.reduceLT, Int.reduceLE, Int.reduceEq, not_true_eq_false, not_false_eq_true, decide_true, decide_false, h0]) <;> omega))
      | ((with_reducible apply GoP.k4); exact rfl; exact rfl; exact rfl; try dsimp only [Option.toList, List.cons_append, List.nil_append])
      | ((with_reducible apply GoP.k5); exact rfl; exact rfl)
      | ((with_reducible apply GoA.sw); all_goals (intro h; (try simp (disch := omega) only [jJ_lit, jJ_add, jJ_mul, iI_long, jJ_toI, l_lt, l_ge, l_gt, l_le, l_eq, l_ne, jJ_inj, k_ule, k_uln, iI_lit, iI_nat, iI_neg, iI_add, iI_sub, iI_mul, k_lt, k_ge, k_gt, k_le, k_eq, k_ne, k_cl, k_in, iI_inj, k_upe, k_upn, k_wue, k_wun, sI_1, sI_2, sI_3, sI_4, sJ_1, sJ_2, sJ_3, sJ_4, sA_1, sA_2, sA_3, sA_4, sB_1, sB_2, sB_3, sB_4, decide_eq_true_eq, decide_eq_false_iff_not, reduceCtorEq, Int.toNat_natCast, Bool.and_true, mc_tf, List.getD_cons_zero, List.getD_cons_succ, Int.reduceToNat, Int.reduceAdd, Int.reduceSub, Int.reduceMul, Int.reduceNeg, Int.reduceLT, Int.reduceLE, Int.reduceEq, not_true_eq_false, not_false_eq_true, decide_true, decide_false, h0] at h); (try (exfalso; omega))))
      | ((with_reducible apply GoA.sw0))
      | ((with_reducible apply GoA.c); all_goals (intro h; (try simp (disch := omega) only [jJ_lit, jJ_add, jJ_mul, iI_long, jJ_toI, l_lt, l_ge, l_gt, l_le, l_eq, l_ne, jJ_inj, k_ule, k_uln, iI_lit, iI_nat, iI_neg, iI_add, iI_sub, iI_mul, k_lt, k_ge, k_gt, k_le, k_eq, k_ne, k_cl, k_in, iI_inj, k_upe, k_upn, k_wue, k_wun, sI_1, sI_2, sI_3, sI_4, sJ_1, sJ_2, sJ_3, sJ_4, sA_1, sA_2, sA_3, sA_4, sB_1, sB_2, sB_3, sB_4, decide_eq_true_eq, decide_eq_false_iff_not, reduceCtorEq, Int.toNat_natCast, Bool.and_true, mc_tf, List.getD_cons_zero, List.getD_cons_succ, Int.reduceToNat, Int.reduceAdd, Int.reduceSub, Int.reduceMul, Int.reduceNeg, Int.reduceLT, Int.reduceLE, Int.reduceEq, not_true_eq_false, not_false_eq_true, decide_true, decide_false, h0] at h); (try (exfalso; omega))))
    refine ⟨1, rfl, fun z => absurd z (by decide), fun z => ?_⟩
    have z := of_decide_eq_false z
    rw [iI_lit, iI_ltp (by omega)] at z
    exact absurd hx z
  · refine EvP.kof (T := tb_X6_verdict) rfl rfl ?_
    dsimp only [mc_pad, mc_exp]
    repeat' first
      | ((with_reducible apply GoP.k0); exact rfl; exact rfl)
      | ((with_reducible apply GoP.k1); exact rfl; exact rfl; all_goals (intro h; (try simp (disch := omega) only [jJ_lit, jJ_add, jJ_mul, iI_long, jJ_toI, l_lt, l_ge, l_gt, l_le, l_eq, l_ne, jJ_inj, k_ule, k_uln, iI_lit, iI_nat, iI_neg, iI_add, iI_sub, iI_mul, k_lt, k_ge, k_gt, k_le, k_eq, k_ne, k_cl, k_in, iI_inj, k_upe, k_upn, k_wue, k_wun, sI_1, sI_2, sI_3, sI_4, sJ_1, sJ_2, sJ_3, sJ_4, sA_1, sA_2, sA_3, sA_4, sB_1, sB_2, sB_3, sB_4, decide_eq_true_eq, decide_eq_false_iff_not, reduceCtorEq, Int.toNat_natCast, Bool.and_true, mc_tf, List.getD_cons_zero, List.getD_cons_succ, Int.reduceToNat, Int.reduceAdd, Int.reduceSub, Int.reduceMul, Int.reduceNeg, Int.reduceLT, Int.reduceLE, Int.reduceEq, not_true_eq_false, not_false_eq_true, decide_true, decide_false, h0] at h); (try (exfalso; omega))))
      | ((with_reducible apply GoP.k2); exact rfl; exact rfl; focus ((simp (disch := omega) only [jJ_lit, jJ_add, jJ_mul, iI_long, jJ_toI, l_lt, l_ge, l_gt, l_le, l_eq, l_ne, jJ_inj, k_ule, k_uln, iI_lit, iI_nat, iI_neg, iI_add, iI_sub, iI_mul, k_lt, k_ge, k_gt, k_le, k_eq, k_ne, k_cl, k_in, iI_inj, k_upe, k_upn, k_wue, k_wun, sI_1, sI_2, sI_3, sI_4, sJ_1, sJ_2, sJ_3, sJ_4, sA_1, sA_2, sA_3, sA_4, sB_1, sB_2, sB_3, sB_4, decide_eq_true_eq, decide_eq_false_iff_not, reduceCtorEq, Int.toNat_natCast, Bool.and_true, mc_tf, List.getD_cons_zero, List.getD_cons_succ, Int.reduceToNat, Int.reduceAdd, Int.reduceSub, Int.reduceMul, Int.reduceNeg, Int.reduceLT, Int.reduceLE, Int.reduceEq, not_true_eq_false, not_false_eq_true, decide_true, decide_false, h0]) <;> omega))
      | ((with_reducible apply GoP.k4); exact rfl; exact rfl; exact rfl; try dsimp only [Option.toList, List.cons_append, List.nil_append])
      | ((with_reducible apply GoP.k5); exact rfl; exact rfl)
      | ((with_reducible apply GoA.sw); all_goals (intro h; (try simp (disch := omega) only [jJ_lit, jJ_add, jJ_mul, iI_long, jJ_toI, l_lt, l_ge, l_gt, l_le, l_eq, l_ne, jJ_inj, k_ule, k_uln, iI_lit, iI_nat, iI_neg, iI_add, iI_sub, iI_mul, k_lt, k_ge, k_gt, k_le, k_eq, k_ne, k_cl, k_in, iI_inj, k_upe, k_upn, k_wue, k_wun, sI_1, sI_2, sI_3, sI_4, sJ_1, sJ_2, sJ_3, sJ_4, sA_1, sA_2, sA_3, sA_4, sB_1, sB_2, sB_3, sB_4, decide_eq_true_eq, decide_eq_false_iff_not, reduceCtorEq, Int.toNat_natCast, Bool.and_true, mc_tf, List.getD_cons_zero, List.getD_cons_succ, Int.reduceToNat, Int.reduceAdd, Int.reduceSub, Int.reduceMul, Int.reduceNeg, Int.reduceLT, Int.reduceLE, Int.reduceEq, not_true_eq_false, not_false_eq_true, decide_true, decide_false, h0] at h); (try (exfalso; omega))))
      | ((with_reducible apply GoA.sw0))
      | ((with_reducible apply GoA.c); all_goals (intro h; (try simp (disch := omega) only [jJ_lit, jJ_add, jJ_mul, iI_long, jJ_toI, l_lt, l_ge, l_gt, l_le, l_eq, l_ne, jJ_inj, k_ule, k_uln, iI_lit, iI_nat, iI_neg, iI_add, iI_sub, iI_mul, k_lt, k_ge, k_gt, k_le, k_eq, k_ne, k_cl, k_in, iI_inj, k_upe, k_upn, k_wue, k_wun, sI_1, sI_2, sI_3, sI_4, sJ_1, sJ_2, sJ_3, sJ_4, sA_1, sA_2, sA_3, sA_4, sB_1, sB_2, sB_3, sB_4, decide_eq_true_eq, decide_eq_false_iff_not, reduceCtorEq, Int.toNat_natCast, Bool.and_true, mc_tf, List.getD_cons_zero, List.getD_cons_succ, Int.reduceToNat, Int.reduceAdd, Int.reduceSub, Int.reduceMul, Int.reduceNeg, Int.reduceLT, Int.reduceLE, Int.reduceEq, not_true_eq_false, not_false_eq_true, decide_true, decide_false, h0] at h); (try (exfalso; omega))))
    refine ⟨0, rfl, fun _ => decide_eq_false (fun z => ?_), fun _ => rfl⟩
    rw [iI_lit, iI_ltp (by omega)] at z
    exact hx z
set_option maxHeartbeats 8000000 in
theorem I_W.vs (h : I_W w σ μ) : ∃ Lv, pV Lv w σ ∧ pVM Lv μ := by
  rcases h with ⟨h1, h2⟩ | ⟨h1, h2, C, ms, hW, hC, hm, ⟨r1, r2, r3⟩, r4, r5, r6⟩
  · refine ⟨fun a _ _ _ _ _ => decide ((0 : Int32) < iI a), fun D M σ2 a b c d e f hD hF => ?_, Or.inl ⟨h2, fun _ _ _ _ _ _ => rfl⟩⟩
    refine EvP.mono (ct_verd0 (M := M) hD ((hF.1 1605 (by decide)).trans h1)) ?_
    rintro R ⟨v, rfl, hv⟩
    exact ⟨v, σ2, rfl, hv, Fr.rf⟩
  · obtain ⟨F, E, a1, a2, a3⟩ := hW.pw []
    have a2 : PW (gA C) C.length F E ms.length := a2
    refine ⟨fun a b c d e f => !decide (fwV (gA C) (nmF a b c d e f) F E ms.length 0 0 = 0), fun D M σ2 a b c d e f hD hF => ?_, Or.inr ⟨h2, fun D μ2 a b c d e f hD h10 hk hx => ?_⟩⟩
    · have fin : EvP D 58 [.ref 16, .int (iI a), .int (iI b), .int (iI c), .int (iI d), .int (iI e), .int (iI f)] (xX w M σ2) (fun R => ∃ σ', R = (some (.int (fwV (gA C) (nmF a b c d e f) F E ms.length 0 0)), xX w M σ', 0, 0) ∧ Fr [] [] [23, 24, 30, 31] [] σ2 σ') := by
        cases w with
        | true =>
          refine ct_verd_true hD hC hm a2 ((hF.1 1605 (by decide)).trans h1) (fun j hj => ⟨?_, hW.steps _ (gA_mem hj)⟩) ⟨(hF.1 2506 (by decide)).trans r3, fun j hj => ?_⟩
          · show σ2.2.2.1 26 j = _ ∧ σ2.2.2.1 27 j = _
            rw [hF.2.2.1 26 (by decide), hF.2.2.1 27 (by decide)]
            exact r1.at hj
          · have e := r2.at hj
            rw [a1 j hj] at e
            show σ2.2.2.1 28 j = _ ∧ σ2.2.2.1 29 j = _
            rw [hF.2.2.1 28 (by decide), hF.2.2.1 29 (by decide)]
            exact e
        | false =>
          refine ct_verd_false hD hC hm a2 ((hF.1 1605 (by decide)).trans h1) (fun j hj => ⟨?_, hW.steps _ (gA_mem hj)⟩) ⟨(hF.1 1806 (by decide)).trans r3, fun j hj => ?_⟩
          · show σ2.2.2.1 19 j = _ ∧ σ2.2.2.1 20 j = _
            rw [hF.2.2.1 19 (by decide), hF.2.2.1 20 (by decide)]
            exact r1.at hj
          · have e := r2.at hj
            rw [a1 j hj] at e
            show σ2.2.2.1 21 j = _ ∧ σ2.2.2.1 22 j = _
            rw [hF.2.2.1 21 (by decide), hF.2.2.1 22 (by decide)]
            exact e
      refine EvP.mono fin ?_
      rintro R ⟨σ', rfl, b1⟩
      refine ⟨_, σ', rfl, ?_, b1⟩
      rw [Bool.not_eq_false', decide_eq_true_eq]
    · obtain ⟨x0, x1, x2, x3, x4, x5⟩ := hx
      have hg := ct_gives (D := D) (μ := μ2) (nm := nmF a b c d e f) hD hC hm a2 (fun j hj => ⟨?_, hW.steps _ (gA_mem hj)⟩) (fun k hk2 => ?_) ⟨?_, fun j hj => ?_⟩
      · refine EvP.mono hg ?_
        rintro R ⟨μ', rfl, b1⟩
        refine ⟨_, μ', rfl, ?_, b1⟩
        rw [Bool.not_eq_false', decide_eq_true_eq]
      · rw [hk 8 (Or.inl rfl), hk 9 (Or.inr (Or.inl rfl))]
        exact r4.at hj
      · have hk3 : k = 0 ∨ k = 1 ∨ k = 2 ∨ k = 3 ∨ k = 4 ∨ k = 5 := by omega
        rcases hk3 with rfl | rfl | rfl | rfl | rfl | rfl
        · exact x0
        · exact x1
        · exact x2
        · exact x3
        · exact x4
        · exact x5
      · rw [hk 10 (Or.inr (Or.inr (Or.inl rfl)))]
        exact r6
      · have e := r5.at hj
        rw [a1 j hj] at e
        rw [hk 11 (Or.inr (Or.inr (Or.inr (Or.inl rfl)))), hk 12 (Or.inr (Or.inr (Or.inr (Or.inr rfl))))]
        exact e
/-- a new text: both states -/
def pN (yX yM : Nat) (as : List Value) (w : Bool) (M : kM) (σ μ : wS) (Q : Bool → wS → wS → Prop) : Prop := EvP 60 yX (.ref 0 :: as) (xX w M σ) (fun RX => EvP 60 yM (.ref 0 :: as) (mkM μ) (fun RM => ∃ (v : Value) (w' : Bool) (σ' μ' : wS), RX = (some v, xX w' M σ', 0, 0) ∧ RM = (some v, mkM μ', 0, 0) ∧ Q w' σ' μ'))
theorem rwL.low {en : Int → Int} {f g f' g' : Nat → Int32} {l : List (Int × Int)} {n : Nat} (h : rwL en f g l) (hl : l.length ≤ n) (hj : ∀ j, j < n → f' j = f j ∧ g' j = g j) : rwL en f' g' l := h.up (fun j hjl => hj j (by omega))
theorem sgI_nat (b : Nat) : sgI (b : Int) = sgB b := by
  unfold sgB sgI
  by_cases h128 : b < 128
  · rw [if_pos h128, if_pos (by omega)]
  · rw [if_neg h128, if_neg (by omega)]
set_option maxHeartbeats 8000000 in
theorem pr_law {L : Nat} {b : Nat → Nat} (hT : I_T σ μ L b) (hW : I_W w σ μ) : pN 115 197 [] w M σ μ (fun w' σ' μ' => I_T σ' μ' 0 b ∧ I_W w' σ' μ' ∧ Fr (1601 :: 1605 :: liR) [] laR [] σ σ' ∧ Fr law_I [] rlA [] μ μ') := by
  obtain ⟨hL, h1601, h12, hb⟩ := hT
  have hq : TQ (fun j => if j < L then (b j : Int) else -1) L := ⟨hL, fun j hj => by
    have := (hb j hj).1
    dsimp only
    rw [if_pos hj]
    omega, fun j hj => by
    dsimp only
    rw [if_neg (by omega)]⟩
  have hx := cx_law (w := w) (M := M) (σ := σ) hq h1601 (fun j hj => by
    rw [if_pos hj]
    exact (hb j hj).2.1)
  have hm := cm_law (μ := μ) hq h12 (fun j hj => by
    rw [if_pos hj, sgI_nat, (hb j hj).2.2])
  refine hx.mono (fun RX hRX => hm.mono (fun RM hRM => ?_))
  rcases hRX with ⟨g1, σ', rfl, s1, sL, sF⟩ | ⟨g1, σ', rfl, s1, s2, s3, s4, sF⟩
  · rcases hRM with ⟨-, μ', rfl, t1, t2, t3, tF⟩ | ⟨g2, -⟩
    · refine ⟨_, w, σ', μ', rfl, rfl, ⟨Nat.zero_le _, s1, t1, fun j hj => by omega⟩, ?_, sF.up (by decide), tF⟩
      rcases hW with ⟨k1, k2⟩ | ⟨k1, k2, C, ms, kW, kC, km, ⟨r1, r2, r3⟩, r4, r5, r6⟩
      · exact Or.inl ⟨(sF.1 1605 (by decide)).trans k1, t2.trans k2⟩
      · refine Or.inr ⟨(sF.1 1605 (by decide)).trans k1, t2.trans k2, C, ms, kW, kC, km, ?_, r4.low (show C.length ≤ 130 by omega) t3.1, r5.low km t3.2.1, t3.2.2.trans r6⟩
        obtain ⟨⟨l1, l2, l3⟩, l4, l5⟩ := sL
        rw [l1, l2, l3, l4, l5]
        exact ⟨r1, r2, r3⟩
    · rw [g1] at g2
      cases g2
  · rcases hRM with ⟨g2, -⟩ | ⟨-, μ', rfl, t1, t2, t3, t4, t5, tF⟩
    · rw [g1] at g2
      cases g2
    · have hls := lsS_ok hq 120 0 [] [] (Nat.zero_le _) (Nat.le_refl _) (Nat.le_refl _) rfl g1
      refine ⟨_, !w, σ', μ', rfl, rfl, ⟨Nat.zero_le _, s1, t1, fun j hj => by omega⟩, Or.inr ⟨s2, t2, _, _, hls.1, hls.2.1, hls.2.2, ?_, t3, t4, t5⟩, sF, tF⟩
      rw [Bool.not_not]
      exact ⟨s3, s4.2, s4.1⟩
end
