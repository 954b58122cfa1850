/-- the answer of a go -/
def rG (T : tT) (ch : Nat → Nat → Nat → Nat → Nat) (w : Bool) (M : kM) (σ : wS) (R : mc_R) : Prop := ∃ (M' : kM) (σ' : wS) (cc nn : Nat), R = (none, xX w M' σ', cc, nn) ∧ cc + gM M = gM M' ∧ nn + 2196 * 2 ^ gM M = 2196 * 2 ^ gM M' ∧ KR M' σ' ∧ GC T ch (tN T) σ' ∧ Fr goI goJ goA goB σ σ'
theorem LK.frs {T : tT} {p e : Nat} {σ σ' : wS} (h : LK T p e σ) (hF : Fr [4304, 4305, 4306, 4307] [] [44] [] σ σ') : LK T p e σ' := by
  obtain ⟨h1, h2, h3⟩ := h
  refine ⟨(hF.1 _ (by decide)).trans h1, (hF.1 _ (by decide)).trans h2, fun i hi => ?_⟩
  rw [hF.2.2.1 48 (by decide), hF.2.2.2 49 (by decide)]
  exact h3 i hi
theorem GS.fr {I J A B : List Nat} {σ σ' : wS} {q room sp : Nat} {wo : Int} (h : GS σ q room wo sp) (hF : Fr I J A B σ σ') (hI : ¬ 4304 ∈ I ∧ ¬ 4305 ∈ I ∧ ¬ 4306 ∈ I ∧ ¬ 4307 ∈ I) : GS σ' q room wo sp := ⟨(hF.1 _ hI.1).trans h.1, (hF.1 _ hI.2.1).trans h.2.1, (hF.1 _ hI.2.2.1).trans h.2.2.1, (hF.1 _ hI.2.2.2).trans h.2.2.2⟩
theorem PC.one (T : tT) (e : Nat) : PC T 1 (fun _ => 1) e := Or.inl ⟨rfl, fun _ => rfl⟩
section
variable {w : Bool} {T : tT}
set_option maxRecDepth 100000 in
set_option maxHeartbeats 4000000 in
/-- the best of a dish, taken -/
theorem st_best {D e st i q : Nat} {M : kM} {σ : wS} {ch : Nat → Nat → Nat → Nat → Nat} (hT : TOk T) (he : e ≤ tN T) (hst : 1 ≤ st) (hi : i < e) (hK : KM st M σ) (hC : CU T 1 (fun _ => 1) e st M) (hX : LX T σ) (hL : LK T 1 e σ) (hq : q < 64) (e1 : q % 32 = (gg T ch i).2.1) (e2 : q / 32 = (gg T ch i).2.2.1) (hG : GS σ q (gg T ch i).1 (gg T ch i).2.2.2.1 (gg T ch i).2.2.2.2) (hlt : ∀ j, j < i → σ.2.2.1 44 j = iI (gt T ch j : Int)) (hge : ∀ j, i ≤ j → j < 9 → σ.2.2.1 44 j = iI 0) (hch : gt T ch i = (bs T 1 (fun _ => 1) (e - 1 - i) i (gg T ch i).1 (gg T ch i).2.1 (gg T ch i).2.2.1).2) {L : List (Option Value)} {cc nn : Nat} {Q : mc_R → Prop} {Tb : List mc_En} {pc : Nat} {pc1 pc2 : Nat} {r : List Value}
    (hs1 : mc_step Tb (pc, L, .int (iI (q : Int)) :: .int (iI ((gg T ch i).1 : Int)) :: .int (iI (i : Int)) :: .ref 45 :: .int (iI (i : Int)) :: .ref 43 :: r, xX w M σ, cc, nn) = some (.inr (.inl (4, [.ref 45, .int (iI (i : Int)), .int (iI ((gg T ch i).1 : Int)), .int (iI (q : Int))], (pc1, L, .int (iI (i : Int)) :: .ref 43 :: r, xX w M σ, cc, nn)))))
    (hs2 : ∀ (v : Int32) (M2 : kM) (σ2 : wS) (c2 n2 : Nat), mc_step Tb (pc1, L, .int v :: .int (iI (i : Int)) :: .ref 43 :: r, xX w M2 σ2, c2, n2) = some (.inr (.inl (49, [.ref 43, .int (iI (i : Int)), .int v], (pc2, L, r, xX w M2 σ2, c2, n2)))))
    (hD : 24 ≤ D)
    (hQ : ∀ (M2 : kM) (σ2 : wS) (c2 n2 : Nat), c2 + gM M = gM M2 → n2 + 2196 * 2 ^ gM M = 2196 * 2 ^ gM M2 → KM st M2 σ2 → CU T 1 (fun _ => 1) e st M2 → LX T σ2 → LK T 1 e σ2 → GC T ch (i + 1) σ2 → Fr goI goJ goA goB σ σ2 → GoP D Tb (pc2, L, r, xX w M2 σ2, cc + c2, nn + n2) Q) : GoP D Tb (pc, L, .int (iI (q : Int)) :: .int (iI ((gg T ch i).1 : Int)) :: .int (iI (i : Int)) :: .ref 45 :: .int (iI (i : Int)) :: .ref 43 :: r, xX w M σ, cc, nn) Q := by
  have hn9 := hT.1
  have hroom : (gg T ch i).1 ≤ 60 := Nat.le_trans (gg_room T ch i) hT.2.1
  have hPC := PC.one T e
  refine GoP.kc hs1 (ct_fewest hT he hPC hst (m := e - 1 - i) (by omega) (by omega) hroom hq hK hC hX hL) ?_
  rintro R ⟨M2, σ2, c2, n2, rfl, hc2, hn2, hK2, hC2, hF2, hP2, -⟩
  dsimp only [Option.toList, List.cons_append, List.nil_append]
  have hFr2 := Fr.ofm hF2
  have hX2 := hX.mv hF2
  have hL2 := hL.mv hF2
  rw [e1, e2, ← hch]
  have hk : gt T ch i ≤ mo T i (gg T ch i).1 (q % 32) (q / 32) := by
    rw [e1, e2, hch]
    exact bs_le _ _ _ _ _ _ _ _
  refine GoP.kc (hs2 _ M2 σ2 _ _) (ct_serve (by omega) hT hX2 (by omega) hq hroom (hG.fr hFr2 (by decide)) hk) ?_
  rintro R ⟨σ3, rfl, h1, h2, h3, h4⟩
  dsimp only [Option.toList, List.cons_append, List.nil_append]
  have e44 : σ2.2.2.1 44 = σ.2.2.1 44 := hFr2.2.2.1 44 (by decide)
  exact hQ M2 σ3 c2 n2 hc2 hn2 (hK2.mv (h4.1 _ (by decide)) (h4.2.2.1 _ (by decide)) (h4.2.2.2 _ (by decide)) (h4.2.1 _ (by decide))) hC2 (hX2.fr (h4.up (by decide))) (hL2.frs h4) (GC.step (σ := σ2) hT (by omega) hq e1 e2 (by rw [e44]; exact hlt) (by rw [e44]; exact hge) h1 h2 h3) ((hFr2.up (by decide)).tr (h4.up (by decide)))
set_option maxRecDepth 100000 in
set_option maxHeartbeats 4000000 in
theorem lp_go0 {Lv : Int → Int → Int → Int → Int → Int → Bool} {D st : Nat} {M0 : kM} {σ0 : wS} (hT : TOk T) (hst : 1 ≤ st) (hD : 24 ≤ D) : ∀ (k i : Nat) (M : kM) (σ : wS) (cc nn : Nat), i + k = tN T → KM st M σ → CU T 1 (fun _ => 1) (tN T) st M → LX T σ → LK T 1 (tN T) σ → GC T (chW T Lv 0) i σ → cc + gM M0 = gM M → nn + 2196 * 2 ^ gM M0 = 2196 * 2 ^ gM M → Fr goI goJ goA goB σ0 σ → GoP D tb_X5_goBy (27, [some (.ref 43), some (.int (iI ((0 : Nat) : Int))), some (.int (iI (i : Int)))], [], xX w M σ, cc, nn) (rG T (chW T Lv 0) w M0 σ0) := by
  have hn9 := hT.1
  intro k
  induction k with
  | zero =>
    intro i M σ cc nn hik hK hC hX hL hG hcc hnn hF
    have h1 := hX.1
    obtain rfl : i = tN T := by omega
    repeat' first
      | ((with_reducible apply GoP.k0); exact rfl; exact rfl)
      | ((with_reducible apply GoP.k1); exact rfl; exact rfl; all_goals (intro h; (try simp (disch := omega) only [jJ_lit, jJ_add, jJ_mul, iI_long, jJ_toI, l_lt, l_ge, l_gt, l_le, l_eq, l_ne, jJ_inj, k_ule, k_uln, iI_lit, iI_nat, iI_neg, iI_add, iI_sub, iI_mul, k_lt, k_ge, k_gt, k_le, k_eq, k_ne, k_cl, k_in, iI_inj, k_upe, k_upn, k_wue, k_wun, sI_1, sI_2, sI_3, sI_4, sJ_1, sJ_2, sJ_3, sJ_4, sA_1, sA_2, sA_3, sA_4, sB_1, sB_2, sB_3, sB_4, decide_eq_true_eq, decide_eq_false_iff_not, reduceCtorEq, Int.toNat_natCast, Bool.and_true, mc_tf, List.getD_cons_zero, List.getD_cons_succ, Int.reduceToNat, Int.reduceAdd, Int.reduceSub, Int.reduceMul, Int.reduceNeg, Int.reduceLT, Int.reduceLE, Int.reduceEq, not_true_eq_false, not_false_eq_true, decide_true, decide_false, h1] at h); (try (exfalso; omega))))
      | ((with_reducible apply GoP.k2); exact rfl; exact rfl; focus ((simp (disch := omega) only [jJ_lit, jJ_add, jJ_mul, iI_long, jJ_toI, l_lt, l_ge, l_gt, l_le, l_eq, l_ne, jJ_inj, k_ule, k_uln, iI_lit, iI_nat, iI_neg, iI_add, iI_sub, iI_mul, k_lt, k_ge, k_gt, k_le, k_eq, k_ne, k_cl, k_in, iI_inj, k_upe, k_upn, k_wue, k_wun, sI_1, sI_2, sI_3, sI_4, sJ_1, sJ_2, sJ_3, sJ_4, sA_1, sA_2, sA_3, sA_4, sB_1, sB_2, sB_3, sB_4, decide_eq_true_eq, decide_eq_false_iff_not, reduceCtorEq, Int.toNat_natCast, Bool.and_true, mc_tf, List.getD_cons_zero, List.getD_cons_succ, Int.reduceToNat, Int.reduceAdd, Int.reduceSub, Int.reduceMul, Int.reduceNeg, Int.reduceLT, Int.reduceLE, Int.reduceEq, not_true_eq_false, not_false_eq_true, decide_true, decide_false, h1]) <;> omega))
      | ((with_reducible apply GoP.k4); exact rfl; exact rfl; exact rfl; try dsimp only [Option.toList, List.cons_append, List.nil_append])
      | ((with_reducible apply GoP.k5); exact rfl; exact rfl)
      | ((with_reducible apply GoA.sw); all_goals (intro h; (try simp (disch := omega) only [jJ_lit, jJ_add, jJ_mul, iI_long, jJ_toI, l_lt, l_ge, l_gt, l_le, l_eq, l_ne, jJ_inj, k_ule, k_uln, iI_lit, iI_nat, iI_neg, iI_add, iI_sub, iI_mul, k_lt, k_ge, k_gt, k_le, k_eq, k_ne, k_cl, k_in, iI_inj, k_upe, k_upn, k_wue, k_wun, sI_1, sI_2, sI_3, sI_4, sJ_1, sJ_2, sJ_3, sJ_4, sA_1, sA_2, sA_3, sA_4, sB_1, sB_2, sB_3, sB_4, decide_eq_true_eq, decide_eq_false_iff_not, reduceCtorEq, Int.toNat_natCast, Bool.and_true, mc_tf, List.getD_cons_zero, List.getD_cons_succ, Int.reduceToNat, Int.reduceAdd, Int.reduceSub, Int.reduceMul, Int.reduceNeg, Int.reduceLT, Int.reduceLE, Int.reduceEq, not_true_eq_false, not_false_eq_true, decide_true, decide_false, h1] at h); (try (exfalso; omega))))
      | ((with_reducible apply GoA.sw0))
      | ((with_reducible apply GoA.c); all_goals (intro h; (try simp (disch := omega) only [jJ_lit, jJ_add, jJ_mul, iI_long, jJ_toI, l_lt, l_ge, l_gt, l_le, l_eq, l_ne, jJ_inj, k_ule, k_uln, iI_lit, iI_nat, iI_neg, iI_add, iI_sub, iI_mul, k_lt, k_ge, k_gt, k_le, k_eq, k_ne, k_cl, k_in, iI_inj, k_upe, k_upn, k_wue, k_wun, sI_1, sI_2, sI_3, sI_4, sJ_1, sJ_2, sJ_3, sJ_4, sA_1, sA_2, sA_3, sA_4, sB_1, sB_2, sB_3, sB_4, decide_eq_true_eq, decide_eq_false_iff_not, reduceCtorEq, Int.toNat_natCast, Bool.and_true, mc_tf, List.getD_cons_zero, List.getD_cons_succ, Int.reduceToNat, Int.reduceAdd, Int.reduceSub, Int.reduceMul, Int.reduceNeg, Int.reduceLT, Int.reduceLE, Int.reduceEq, not_true_eq_false, not_false_eq_true, decide_true, decide_false, h1] at h); (try (exfalso; omega))))
    exact ⟨M, σ, cc, nn, rfl, hcc, hnn, ⟨st, hK⟩, hG, hF⟩
  | succ k ih =>
    intro i M σ cc nn hik hK hC hX hL hG hcc hnn hF
    have h1 := hX.1
    obtain ⟨q, hq, e1, e2, hGS, hlt, hge⟩ := hG
    repeat' first
      | ((with_reducible apply GoP.k0); exact rfl; exact rfl)
      | ((with_reducible apply GoP.k1); exact rfl; exact rfl; all_goals (intro h; (try simp (disch := omega) only [jJ_lit, jJ_add, jJ_mul, iI_long, jJ_toI, l_lt, l_ge, l_gt, l_le, l_eq, l_ne, jJ_inj, k_ule, k_uln, iI_lit, iI_nat, iI_neg, iI_add, iI_sub, iI_mul, k_lt, k_ge, k_gt, k_le, k_eq, k_ne, k_cl, k_in, iI_inj, k_upe, k_upn, k_wue, k_wun, sI_1, sI_2, sI_3, sI_4, sJ_1, sJ_2, sJ_3, sJ_4, sA_1, sA_2, sA_3, sA_4, sB_1, sB_2, sB_3, sB_4, decide_eq_true_eq, decide_eq_false_iff_not, reduceCtorEq, Int.toNat_natCast, Bool.and_true, mc_tf, List.getD_cons_zero, List.getD_cons_succ, Int.reduceToNat, Int.reduceAdd, Int.reduceSub, Int.reduceMul, Int.reduceNeg, Int.reduceLT, Int.reduceLE, Int.reduceEq, not_true_eq_false, not_false_eq_true, decide_true, decide_false, h1] at h); (try (exfalso; omega))))
      | ((with_reducible apply GoP.k2); exact rfl; exact rfl; focus ((simp (disch := omega) only [jJ_lit, jJ_add, jJ_mul, iI_long, jJ_toI, l_lt, l_ge, l_gt, l_le, l_eq, l_ne, jJ_inj, k_ule, k_uln, iI_lit, iI_nat, iI_neg, iI_add, iI_sub, iI_mul, k_lt, k_ge, k_gt, k_le, k_eq, k_ne, k_cl, k_in, iI_inj, k_upe, k_upn, k_wue, k_wun, sI_1, sI_2, sI_3, sI_4, sJ_1, sJ_2, sJ_3, sJ_4, sA_1, sA_2, sA_3, sA_4, sB_1, sB_2, sB_3, sB_4, decide_eq_true_eq, decide_eq_false_iff_not, reduceCtorEq, Int.toNat_natCast, Bool.and_true, mc_tf, List.getD_cons_zero, List.getD_cons_succ, Int.reduceToNat, Int.reduceAdd, Int.reduceSub, Int.reduceMul, Int.reduceNeg, Int.reduceLT, Int.reduceLE, Int.reduceEq, not_true_eq_false, not_false_eq_true, decide_true, decide_false, h1]) <;> omega))
      | ((with_reducible apply GoP.k4); exact rfl; exact rfl; exact rfl; try dsimp only [Option.toList, List.cons_append, List.nil_append])
      | ((with_reducible apply GoP.k5); exact rfl; exact rfl)
      | ((with_reducible apply GoA.sw); all_goals (intro h; (try simp (disch := omega) only [jJ_lit, jJ_add, jJ_mul, iI_long, jJ_toI, l_lt, l_ge, l_gt, l_le, l_eq, l_ne, jJ_inj, k_ule, k_uln, iI_lit, iI_nat, iI_neg, iI_add, iI_sub, iI_mul, k_lt, k_ge, k_gt, k_le, k_eq, k_ne, k_cl, k_in, iI_inj, k_upe, k_upn, k_wue, k_wun, sI_1, sI_2, sI_3, sI_4, sJ_1, sJ_2, sJ_3, sJ_4, sA_1, sA_2, sA_3, sA_4, sB_1, sB_2, sB_3, sB_4, decide_eq_true_eq, decide_eq_false_iff_not, reduceCtorEq, Int.toNat_natCast, Bool.and_true, mc_tf, List.getD_cons_zero, List.getD_cons_succ, Int.reduceToNat, Int.reduceAdd, Int.reduceSub, Int.reduceMul, Int.reduceNeg, Int.reduceLT, Int.reduceLE, Int.reduceEq, not_true_eq_false, not_false_eq_true, decide_true, decide_false, h1] at h); (try (exfalso; omega))))
      | ((with_reducible apply GoA.sw0))
      | ((with_reducible apply GoA.c); all_goals (intro h; (try simp (disch := omega) only [jJ_lit, jJ_add, jJ_mul, iI_long, jJ_toI, l_lt, l_ge, l_gt, l_le, l_eq, l_ne, jJ_inj, k_ule, k_uln, iI_lit, iI_nat, iI_neg, iI_add, iI_sub, iI_mul, k_lt, k_ge, k_gt, k_le, k_eq, k_ne, k_cl, k_in, iI_inj, k_upe, k_upn, k_wue, k_wun, sI_1, sI_2, sI_3, sI_4, sJ_1, sJ_2, sJ_3, sJ_4, sA_1, sA_2, sA_3, sA_4, sB_1, sB_2, sB_3, sB_4, decide_eq_true_eq, decide_eq_false_iff_not, reduceCtorEq, Int.toNat_natCast, Bool.and_true, mc_tf, List.getD_cons_zero, List.getD_cons_succ, Int.reduceToNat, Int.reduceAdd, Int.reduceSub, Int.reduceMul, Int.reduceNeg, Int.reduceLT, Int.reduceLE, Int.reduceEq, not_true_eq_false, not_false_eq_true, decide_true, decide_false, h1] at h); (try (exfalso; omega))))
    rw [hGS.1, hGS.2.2.2]
    refine st_best (e := tN T) hT (Nat.le_refl _) hst (by omega) hK hC hX hL hq e1 e2 hGS hlt hge rfl rfl (fun _ _ _ _ _ => rfl) hD ?_
    intro M2 σ2 c2 n2 hc2 hn2 hK2 hC2 hX2 hL2 hG2 hF2
    iterate 2 (refine GoP.st1 rfl ?_)
    refine GoP.st1 rfl ?_
    rw [show iI (i : Int) + 1 = iI ((i + 1 : Nat) : Int) by rw [iI_lit, iI_add]; rfl]
    exact ih (i + 1) M2 σ2 _ _ (by omega) hK2 hC2 hX2 hL2 hG2 (by omega) (by omega) (hF.tr hF2)
set_option maxRecDepth 100000 in
set_option maxHeartbeats 4000000 in
theorem lp_goW {Lv : Int → Int → Int → Int → Int → Int → Bool} {D way : Nat} {M : kM} {σ0 : wS} (hT : TOk T) (hw : way = 1 ∨ way = 2 ∨ way = 3) (hV : pV Lv w σ0) (hD : 24 ≤ D) : ∀ (k i : Nat) (σ : wS), i + k = tN T → KR M σ → LX T σ → GC T (chW T Lv way) i σ → Fr goI goJ goA goB σ0 σ → GoP D tb_X5_goBy (27, [some (.ref 43), some (.int (iI (way : Int))), some (.int (iI (i : Int)))], [], xX w M σ, 0, 0) (rG T (chW T Lv way) w M σ0) := by
  have hn9 := hT.1
  obtain ⟨D, rfl⟩ : ∃ D', D = D' + 8 := ⟨D - 8, by omega⟩
  intro k
  induction k with
  | zero =>
    intro i σ hik hK hX hG hF
    have h1 := hX.1
    obtain rfl : i = tN T := by omega
    repeat' first
      | ((with_reducible apply GoP.k0); exact rfl; exact rfl)
      | ((with_reducible apply GoP.k1); exact rfl; exact rfl; all_goals (intro h; (try simp (disch := omega) only [jJ_lit, jJ_add, jJ_mul, iI_long, jJ_toI, l_lt, l_ge, l_gt, l_le, l_eq, l_ne, jJ_inj, k_ule, k_uln, iI_lit, iI_nat, iI_neg, iI_add, iI_sub, iI_mul, k_lt, k_ge, k_gt, k_le, k_eq, k_ne, k_cl, k_in, iI_inj, k_upe, k_upn, k_wue, k_wun, sI_1, sI_2, sI_3, sI_4, sJ_1, sJ_2, sJ_3, sJ_4, sA_1, sA_2, sA_3, sA_4, sB_1, sB_2, sB_3, sB_4, decide_eq_true_eq, decide_eq_false_iff_not, reduceCtorEq, Int.toNat_natCast, Bool.and_true, mc_tf, List.getD_cons_zero, List.getD_cons_succ, Int.reduceToNat, Int.reduceAdd, Int.reduceSub, Int.reduceMul, Int.reduceNeg, Int.reduceLT, Int.reduceLE, Int.reduceEq, not_true_eq_false, not_false_eq_true, decide_true, decide_false, h1] at h); (try (exfalso; omega))))
      | ((with_reducible apply GoP.k2); exact rfl; exact rfl; focus ((simp (disch := omega) only [jJ_lit, jJ_add, jJ_mul, iI_long, jJ_toI, l_lt, l_ge, l_gt, l_le, l_eq, l_ne, jJ_inj, k_ule, k_uln, iI_lit, iI_nat, iI_neg, iI_add, iI_sub, iI_mul, k_lt, k_ge, k_gt, k_le, k_eq, k_ne, k_cl, k_in, iI_inj, k_upe, k_upn, k_wue, k_wun, sI_1, sI_2, sI_3, sI_4, sJ_1, sJ_2, sJ_3, sJ_4, sA_1, sA_2, sA_3, sA_4, sB_1, sB_2, sB_3, sB_4, decide_eq_true_eq, decide_eq_false_iff_not, reduceCtorEq, Int.toNat_natCast, Bool.and_true, mc_tf, List.getD_cons_zero, List.getD_cons_succ, Int.reduceToNat, Int.reduceAdd, Int.reduceSub, Int.reduceMul, Int.reduceNeg, Int.reduceLT, Int.reduceLE, Int.reduceEq, not_true_eq_false, not_false_eq_true, decide_true, decide_false, h1]) <;> omega))
      | ((with_reducible apply GoP.k4); exact rfl; exact rfl; exact rfl; try dsimp only [Option.toList, List.cons_append, List.nil_append])
      | ((with_reducible apply GoP.k5); exact rfl; exact rfl)
      | ((with_reducible apply GoA.sw); all_goals (intro h; (try simp (disch := omega) only [jJ_lit, jJ_add, jJ_mul, iI_long, jJ_toI, l_lt, l_ge, l_gt, l_le, l_eq, l_ne, jJ_inj, k_ule, k_uln, iI_lit, iI_nat, iI_neg, iI_add, iI_sub, iI_mul, k_lt, k_ge, k_gt, k_le, k_eq, k_ne, k_cl, k_in, iI_inj, k_upe, k_upn, k_wue, k_wun, sI_1, sI_2, sI_3, sI_4, sJ_1, sJ_2, sJ_3, sJ_4, sA_1, sA_2, sA_3, sA_4, sB_1, sB_2, sB_3, sB_4, decide_eq_true_eq, decide_eq_false_iff_not, reduceCtorEq, Int.toNat_natCast, Bool.and_true, mc_tf, List.getD_cons_zero, List.getD_cons_succ, Int.reduceToNat, Int.reduceAdd, Int.reduceSub, Int.reduceMul, Int.reduceNeg, Int.reduceLT, Int.reduceLE, Int.reduceEq, not_true_eq_false, not_false_eq_true, decide_true, decide_false, h1] at h); (try (exfalso; omega))))
      | ((with_reducible apply GoA.sw0))
      | ((with_reducible apply GoA.c); all_goals (intro h; (try simp (disch := omega) only [jJ_lit, jJ_add, jJ_mul, iI_long, jJ_toI, l_lt, l_ge, l_gt, l_le, l_eq, l_ne, jJ_inj, k_ule, k_uln, iI_lit, iI_nat, iI_neg, iI_add, iI_sub, iI_mul, k_lt, k_ge, k_gt, k_le, k_eq, k_ne, k_cl, k_in, iI_inj, k_upe, k_upn, k_wue, k_wun, sI_1, sI_2, sI_3, sI_4, sJ_1, sJ_2, sJ_3, sJ_4, sA_1, sA_2, sA_3, sA_4, sB_1, sB_2, sB_3, sB_4, decide_eq_true_eq, decide_eq_false_iff_not, reduceCtorEq, Int.toNat_natCast, Bool.and_true, mc_tf, List.getD_cons_zero, List.getD_cons_succ, Int.reduceToNat, Int.reduceAdd, Int.reduceSub, Int.reduceMul, Int.reduceNeg, Int.reduceLT, Int.reduceLE, Int.reduceEq, not_true_eq_false, not_false_eq_true, decide_true, decide_false, h1] at h); (try (exfalso; omega))))
    exact ⟨M, σ, 0, 0, rfl, Nat.zero_add _, Nat.zero_add _, hK, hG, hF⟩
  | succ k ih =>
    intro i σ hik hK hX hG hF
    have h1 := hX.1
    obtain ⟨q, hq, e1, e2, hGS, hlt, hge⟩ := hG
    have hroom : (gg T (chW T Lv way) i).1 ≤ 60 := Nat.le_trans (gg_room T _ i) hT.2.1
    have hm9 := mo_le (T := T) i (gg T (chW T Lv way) i).1 (q % 32) (q / 32)
    have hi9 := hT.2.2.1 i (by omega)
    have hk : gt T (chW T Lv way) i ≤ mo T i (gg T (chW T Lv way) i).1 (q % 32) (q / 32) := by
      rw [e1, e2]
      exact chW_ok T Lv way i _ _ _
    -- behind the choice
    have tail : ∀ (σ1 : wS), Fr [] [] [23, 24, 30, 31] [] σ σ1 → ∀ pc, mc_step tb_X5_goBy (pc, [some (.ref 43), some (.int (iI (way : Int))), some (.int (iI (i : Int)))], [.int (iI (gt T (chW T Lv way) i : Int)), .int (iI (i : Int)), .ref 43], xX w M σ1, 0, 0) = some (.inr (.inl (49, [.ref 43, .int (iI (i : Int)), .int (iI (gt T (chW T Lv way) i : Int))], (pc + 3, [some (.ref 43), some (.int (iI (way : Int))), some (.int (iI (i : Int)))], [], xX w M σ1, 0, 0)))) → (∀ σ2 c n, mc_step tb_X5_goBy (pc + 3, [some (.ref 43), some (.int (iI (way : Int))), some (.int (iI (i : Int)))], [], xX w M σ2, c, n) = some (.inl [(true, (135, [some (.ref 43), some (.int (iI (way : Int))), some (.int (iI (i : Int)))], [], xX w M σ2, c, n))])) → GoP (D + 8) tb_X5_goBy (pc, [some (.ref 43), some (.int (iI (way : Int))), some (.int (iI (i : Int)))], [.int (iI (gt T (chW T Lv way) i : Int)), .int (iI (i : Int)), .ref 43], xX w M σ1, 0, 0) (rG T (chW T Lv way) w M σ0) := by
      intro σ1 hF1 pc hs1 hs2
      have hFg : Fr goI goJ goA goB σ σ1 := hF1.up (by decide)
      have e44 : σ1.2.2.1 44 = σ.2.2.1 44 := hF1.2.2.1 44 (by decide)
      refine GoP.kc hs1 (ct_serve (by omega) hT (hX.fr hFg) (by omega) hq hroom (hGS.fr hF1 (by decide)) hk) ?_
      rintro R ⟨σ3, rfl, h1, h2, h3, h4⟩
      dsimp only [Option.toList, List.cons_append, List.nil_append]
      refine GoP.st1 (hs2 _ _ _) ?_
      iterate 2 (refine GoP.st1 rfl ?_)
      rw [show iI (i : Int) + 1 = iI ((i + 1 : Nat) : Int) by rw [iI_lit, iI_add]; rfl]
      obtain ⟨st, hKM⟩ := hK
      have hK3 : KR M σ3 := ⟨st, (hKM.mv (hF1.1 _ (by decide)) (hF1.2.2.1 _ (by decide)) (hF1.2.2.2 _ (by decide)) (hF1.2.1 _ (by decide))).mv (h4.1 _ (by decide)) (h4.2.2.1 _ (by decide)) (h4.2.2.2 _ (by decide)) (h4.2.1 _ (by decide))⟩
      exact ih (i + 1) σ3 (by omega) hK3 ((hX.fr hFg).fr (h4.up (by decide))) (GC.step (σ := σ1) hT (by omega) hq e1 e2 (by rw [e44]; exact hlt) (by rw [e44]; exact hge) h1 h2 h3) ((hF.tr hFg).tr (h4.up (by decide)))
    rcases hw with rfl | rfl | rfl
    · repeat' first
        | ((with_reducible apply GoP.k0); exact rfl; exact rfl)
        | ((with_reducible apply GoP.k1); exact rfl; exact rfl; all_goals (intro h; (try simp (disch := omega) only [jJ_lit, jJ_add, jJ_mul, iI_long, jJ_toI, l_lt, l_ge, l_gt, l_le, l_eq, l_ne, jJ_inj, k_ule, k_uln, iI_lit, iI_nat, iI_neg, iI_add, iI_sub, iI_mul, k_lt, k_ge, k_gt, k_le, k_eq, k_ne, k_cl, k_in, iI_inj, k_upe, k_upn, k_wue, k_wun, sI_1, sI_2, sI_3, sI_4, sJ_1, sJ_2, sJ_3, sJ_4, sA_1, sA_2, sA_3, sA_4, sB_1, sB_2, sB_3, sB_4, decide_eq_true_eq, decide_eq_false_iff_not, reduceCtorEq, Int.toNat_natCast, Bool.and_true, mc_tf, List.getD_cons_zero, List.getD_cons_succ, Int.reduceToNat, Int.reduceAdd, Int.reduceSub, Int.reduceMul, Int.reduceNeg, Int.reduceLT, Int.reduceLE, Int.reduceEq, not_true_eq_false, not_false_eq_true, decide_true, decide_false, h1] at h); (try (exfalso; omega))))
        | ((with_reducible apply GoP.k2); exact rfl; exact rfl; focus ((simp (disch := omega) only [jJ_lit, jJ_add, jJ_mul, iI_long, jJ_toI, l_lt, l_ge, l_gt, l_le, l_eq, l_ne, jJ_inj, k_ule, k_uln, iI_lit, iI_nat, iI_neg, iI_add, iI_sub, iI_mul, k_lt, k_ge, k_gt, k_le, k_eq, k_ne, k_cl, k_in, iI_inj, k_upe, k_upn, k_wue, k_wun, sI_1, sI_2, sI_3, sI_4, sJ_1, sJ_2, sJ_3, sJ_4, sA_1, sA_2, sA_3, sA_4, sB_1, sB_2, sB_3, sB_4, decide_eq_true_eq, decide_eq_false_iff_not, reduceCtorEq, Int.toNat_natCast, Bool.and_true, mc_tf, List.getD_cons_zero, List.getD_cons_succ, Int.reduceToNat, Int.reduceAdd, Int.reduceSub, Int.reduceMul, Int.reduceNeg, Int.reduceLT, Int.reduceLE, Int.reduceEq, not_true_eq_false, not_false_eq_true, decide_true, decide_false, h1]) <;> omega))
        | ((with_reducible apply GoP.k4); exact rfl; exact rfl; exact rfl; try dsimp only [Option.toList, List.cons_append, List.nil_append])
        | ((with_reducible apply GoP.k5); exact rfl; exact rfl)
        | ((with_reducible apply GoA.sw); all_goals (intro h; (try simp (disch := omega) only [jJ_lit, jJ_add, jJ_mul, iI_long, jJ_toI, l_lt, l_ge, l_gt, l_le, l_eq, l_ne, jJ_inj, k_ule, k_uln, iI_lit, iI_nat, iI_neg, iI_add, iI_sub, iI_mul, k_lt, k_ge, k_gt, k_le, k_eq, k_ne, k_cl, k_in, iI_inj, k_upe, k_upn, k_wue, k_wun, sI_1, sI_2, sI_3, sI_4, sJ_1, sJ_2, sJ_3, sJ_4, sA_1, sA_2, sA_3, sA_4, sB_1, sB_2, sB_3, sB_4, decide_eq_true_eq, decide_eq_false_iff_not, reduceCtorEq, Int.toNat_natCast, Bool.and_true, mc_tf, List.getD_cons_zero, List.getD_cons_succ, Int.reduceToNat, Int.reduceAdd, Int.reduceSub, Int.reduceMul, Int.reduceNeg, Int.reduceLT, Int.reduceLE, Int.reduceEq, not_true_eq_false, not_false_eq_true, decide_true, decide_false, h1] at h); (try (exfalso; omega))))
        | ((with_reducible apply GoA.sw0))
        | ((with_reducible apply GoA.c); all_goals (intro h; (try simp (disch := omega) only [jJ_lit, jJ_add, jJ_mul, iI_long, jJ_toI, l_lt, l_ge, l_gt, l_le, l_eq, l_ne, jJ_inj, k_ule, k_uln, iI_lit, iI_nat, iI_neg, iI_add, iI_sub, iI_mul, k_lt, k_ge, k_gt, k_le, k_eq, k_ne, k_cl, k_in, iI_inj, k_upe, k_upn, k_wue, k_wun, sI_1, sI_2, sI_3, sI_4, sJ_1, sJ_2, sJ_3, sJ_4, sA_1, sA_2, sA_3, sA_4, sB_1, sB_2, sB_3, sB_4, decide_eq_true_eq, decide_eq_false_iff_not, reduceCtorEq, Int.toNat_natCast, Bool.and_true, mc_tf, List.getD_cons_zero, List.getD_cons_succ, Int.reduceToNat, Int.reduceAdd, Int.reduceSub, Int.reduceMul, Int.reduceNeg, Int.reduceLT, Int.reduceLE, Int.reduceEq, not_true_eq_false, not_false_eq_true, decide_true, decide_false, h1] at h); (try (exfalso; omega))))
      refine GoP.ke rfl (ct_mostOf (by omega) hT hX (by omega) hq hroom hGS) ?_
      dsimp only [Option.toList, List.cons_append, List.nil_append]
      rw [show (1 : Int32) = iI 1 from iI_lit 1]
      refine GoP.ke rfl (ct_min (by omega)) ?_
      dsimp only [Option.toList, List.cons_append, List.nil_append]
      have e3 : iI (min 1 (mo T i (gg T (chW T Lv 1) i).1 (q % 32) (q / 32) : Int)) = iI (gt T (chW T Lv 1) i : Int) := by
        rw [e1, e2]
        show _ = iI ((min 1 (mo T i (gg T (chW T Lv 1) i).1 (gg T (chW T Lv 1) i).2.1 (gg T (chW T Lv 1) i).2.2.1) : Nat) : Int)
        congr 1
        omega
      rw [e3]
      exact tail σ Fr.rf 103 rfl (fun _ _ _ => rfl)
    · repeat' first
        | ((with_reducible apply GoP.k0); exact rfl; exact rfl)
        | ((with_reducible apply GoP.k1); exact rfl; exact rfl; all_goals (intro h; (try simp (disch := omega) only [jJ_lit, jJ_add, jJ_mul, iI_long, jJ_toI, l_lt, l_ge, l_gt, l_le, l_eq, l_ne, jJ_inj, k_ule, k_uln, iI_lit, iI_nat, iI_neg, iI_add, iI_sub, iI_mul, k_lt, k_ge, k_gt, k_le, k_eq, k_ne, k_cl, k_in, iI_inj, k_upe, k_upn, k_wue, k_wun, sI_1, sI_2, sI_3, sI_4, sJ_1, sJ_2, sJ_3, sJ_4, sA_1, sA_2, sA_3, sA_4, sB_1, sB_2, sB_3, sB_4, decide_eq_true_eq, decide_eq_false_iff_not, reduceCtorEq, Int.toNat_natCast, Bool.and_true, mc_tf, List.getD_cons_zero, List.getD_cons_succ, Int.reduceToNat, Int.reduceAdd, Int.reduceSub, Int.reduceMul, Int.reduceNeg, Int.reduceLT, Int.reduceLE, Int.reduceEq, not_true_eq_false, not_false_eq_true, decide_true, decide_false, h1] at h); (try (exfalso; omega))))
        | ((with_reducible apply GoP.k2); exact rfl; exact rfl; focus ((simp (disch := omega) only [jJ_lit, jJ_add, jJ_mul, iI_long, jJ_toI, l_lt, l_ge, l_gt, l_le, l_eq, l_ne, jJ_inj, k_ule, k_uln, iI_lit, iI_nat, iI_neg, iI_add, iI_sub, iI_mul, k_lt, k_ge, k_gt, k_le, k_eq, k_ne, k_cl, k_in, iI_inj, k_upe, k_upn, k_wue, k_wun, sI_1, sI_2, sI_3, sI_4, sJ_1, sJ_2, sJ_3, sJ_4, sA_1, sA_2, sA_3, sA_4, sB_1, sB_2, sB_3, sB_4, decide_eq_true_eq, decide_eq_false_iff_not, reduceCtorEq, Int.toNat_natCast, Bool.and_true, mc_tf, List.getD_cons_zero, List.getD_cons_succ, Int.reduceToNat, Int.reduceAdd, Int.reduceSub, Int.reduceMul, Int.reduceNeg, Int.reduceLT, Int.reduceLE, Int.reduceEq, not_true_eq_false, not_false_eq_true, decide_true, decide_false, h1]) <;> omega))
        | ((with_reducible apply GoP.k4); exact rfl; exact rfl; exact rfl; try dsimp only [Option.toList, List.cons_append, List.nil_append])
        | ((with_reducible apply GoP.k5); exact rfl; exact rfl)
        | ((with_reducible apply GoA.sw); all_goals (intro h; (try simp (disch := omega) only [jJ_lit, jJ_add, jJ_mul, iI_long, jJ_toI, l_lt, l_ge, l_gt, l_le, l_eq, l_ne, jJ_inj, k_ule, k_uln, iI_lit, iI_nat, iI_neg, iI_add, iI_sub, iI_mul, k_lt, k_ge, k_gt, k_le, k_eq, k_ne, k_cl, k_in, iI_inj, k_upe, k_upn, k_wue, k_wun, sI_1, sI_2, sI_3, sI_4, sJ_1, sJ_2, sJ_3, sJ_4, sA_1, sA_2, sA_3, sA_4, sB_1, sB_2, sB_3, sB_4, decide_eq_true_eq, decide_eq_false_iff_not, reduceCtorEq, Int.toNat_natCast, Bool.and_true, mc_tf, List.getD_cons_zero, List.getD_cons_succ, Int.reduceToNat, Int.reduceAdd, Int.reduceSub, Int.reduceMul, Int.reduceNeg, Int.reduceLT, Int.reduceLE, Int.reduceEq, not_true_eq_false, not_false_eq_true, decide_true, decide_false, h1] at h); (try (exfalso; omega))))
        | ((with_reducible apply GoA.sw0))
        | ((with_reducible apply GoA.c); all_goals (intro h; (try simp (disch := omega) only [jJ_lit, jJ_add, jJ_mul, iI_long, jJ_toI, l_lt, l_ge, l_gt, l_le, l_eq, l_ne, jJ_inj, k_ule, k_uln, iI_lit, iI_nat, iI_neg, iI_add, iI_sub, iI_mul, k_lt, k_ge, k_gt, k_le, k_eq, k_ne, k_cl, k_in, iI_inj, k_upe, k_upn, k_wue, k_wun, sI_1, sI_2, sI_3, sI_4, sJ_1, sJ_2, sJ_3, sJ_4, sA_1, sA_2, sA_3, sA_4, sB_1, sB_2, sB_3, sB_4, decide_eq_true_eq, decide_eq_false_iff_not, reduceCtorEq, Int.toNat_natCast, Bool.and_true, mc_tf, List.getD_cons_zero, List.getD_cons_succ, Int.reduceToNat, Int.reduceAdd, Int.reduceSub, Int.reduceMul, Int.reduceNeg, Int.reduceLT, Int.reduceLE, Int.reduceEq, not_true_eq_false, not_false_eq_true, decide_true, decide_false, h1] at h); (try (exfalso; omega))))
      refine GoP.kc rfl (ct_wanted hT hV (by omega) hq hroom (by omega) hX hGS hF) ?_
      rintro R ⟨σ1, rfl, hF1⟩
      dsimp only [Option.toList, List.cons_append, List.nil_append]
      rw [e1, e2]
      exact tail σ1 hF1 116 rfl (fun _ _ _ => rfl)
    · repeat' first
        | ((with_reducible apply GoP.k0); exact rfl; exact rfl)
        | ((with_reducible apply GoP.k1); exact rfl; exact rfl; all_goals (intro h; (try simp (disch := omega) only [jJ_lit, jJ_add, jJ_mul, iI_long, jJ_toI, l_lt, l_ge, l_gt, l_le, l_eq, l_ne, jJ_inj, k_ule, k_uln, iI_lit, iI_nat, iI_neg, iI_add, iI_sub, iI_mul, k_lt, k_ge, k_gt, k_le, k_eq, k_ne, k_cl, k_in, iI_inj, k_upe, k_upn, k_wue, k_wun, sI_1, sI_2, sI_3, sI_4, sJ_1, sJ_2, sJ_3, sJ_4, sA_1, sA_2, sA_3, sA_4, sB_1, sB_2, sB_3, sB_4, decide_eq_true_eq, decide_eq_false_iff_not, reduceCtorEq, Int.toNat_natCast, Bool.and_true, mc_tf, List.getD_cons_zero, List.getD_cons_succ, Int.reduceToNat, Int.reduceAdd, Int.reduceSub, Int.reduceMul, Int.reduceNeg, Int.reduceLT, Int.reduceLE, Int.reduceEq, not_true_eq_false, not_false_eq_true, decide_true, decide_false, h1] at h); (try (exfalso; omega))))
        | ((with_reducible apply GoP.k2); exact rfl; exact rfl; focus ((simp (disch := omega) only [jJ_lit, jJ_add, jJ_mul, iI_long, jJ_toI, l_lt, l_ge, l_gt, l_le, l_eq, l_ne, jJ_inj, k_ule, k_uln, iI_lit, iI_nat, iI_neg, iI_add, iI_sub, iI_mul, k_lt, k_ge, k_gt, k_le, k_eq, k_ne, k_cl, k_in, iI_inj, k_upe, k_upn, k_wue, k_wun, sI_1, sI_2, sI_3, sI_4, sJ_1, sJ_2, sJ_3, sJ_4, sA_1, sA_2, sA_3, sA_4, sB_1, sB_2, sB_3, sB_4, decide_eq_true_eq, decide_eq_false_iff_not, reduceCtorEq, Int.toNat_natCast, Bool.and_true, mc_tf, List.getD_cons_zero, List.getD_cons_succ, Int.reduceToNat, Int.reduceAdd, Int.reduceSub, Int.reduceMul, Int.reduceNeg, Int.reduceLT, Int.reduceLE, Int.reduceEq, not_true_eq_false, not_false_eq_true, decide_true, decide_false, h1]) <;> omega))
        | ((with_reducible apply GoP.k4); exact rfl; exact rfl; exact rfl; try dsimp only [Option.toList, List.cons_append, List.nil_append])
        | ((with_reducible apply GoP.k5); exact rfl; exact rfl)
        | ((with_reducible apply GoA.sw); all_goals (intro h; (try simp (disch := omega) only [jJ_lit, jJ_add, jJ_mul, iI_long, jJ_toI, l_lt, l_ge, l_gt, l_le, l_eq, l_ne, jJ_inj, k_ule, k_uln, iI_lit, iI_nat, iI_neg, iI_add, iI_sub, iI_mul, k_lt, k_ge, k_gt, k_le, k_eq, k_ne, k_cl, k_in, iI_inj, k_upe, k_upn, k_wue, k_wun, sI_1, sI_2, sI_3, sI_4, sJ_1, sJ_2, sJ_3, sJ_4, sA_1, sA_2, sA_3, sA_4, sB_1, sB_2, sB_3, sB_4, decide_eq_true_eq, decide_eq_false_iff_not, reduceCtorEq, Int.toNat_natCast, Bool.and_true, mc_tf, List.getD_cons_zero, List.getD_cons_succ, Int.reduceToNat, Int.reduceAdd, Int.reduceSub, Int.reduceMul, Int.reduceNeg, Int.reduceLT, Int.reduceLE, Int.reduceEq, not_true_eq_false, not_false_eq_true, decide_true, decide_false, h1] at h); (try (exfalso; omega))))
        | ((with_reducible apply GoA.sw0))
        | ((with_reducible apply GoA.c); all_goals (intro h; (try simp (disch := omega) only [jJ_lit, jJ_add, jJ_mul, iI_long, jJ_toI, l_lt, l_ge, l_gt, l_le, l_eq, l_ne, jJ_inj, k_ule, k_uln, iI_lit, iI_nat, iI_neg, iI_add, iI_sub, iI_mul, k_lt, k_ge, k_gt, k_le, k_eq, k_ne, k_cl, k_in, iI_inj, k_upe, k_upn, k_wue, k_wun, sI_1, sI_2, sI_3, sI_4, sJ_1, sJ_2, sJ_3, sJ_4, sA_1, sA_2, sA_3, sA_4, sB_1, sB_2, sB_3, sB_4, decide_eq_true_eq, decide_eq_false_iff_not, reduceCtorEq, Int.toNat_natCast, Bool.and_true, mc_tf, List.getD_cons_zero, List.getD_cons_succ, Int.reduceToNat, Int.reduceAdd, Int.reduceSub, Int.reduceMul, Int.reduceNeg, Int.reduceLT, Int.reduceLE, Int.reduceEq, not_true_eq_false, not_false_eq_true, decide_true, decide_false, h1] at h); (try (exfalso; omega))))
      refine GoP.ke rfl (ct_mostOf (by omega) hT hX (by omega) hq hroom hGS) ?_
      dsimp only [Option.toList, List.cons_append, List.nil_append]
      rw [e1, e2]
      exact tail σ Fr.rf 129 rfl (fun _ _ _ => rfl)
end
