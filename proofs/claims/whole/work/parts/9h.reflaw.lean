/-! The reference's lines, its law. -/
theorem sh_256 : ∀ b, b < 256 → vp_nar .short (Int32.ofNat b).toInt16.toInt32 = Int32.ofInt (b : Int) ∧ vp_nar .short (Int32.ofNat b) = Int32.ofInt (b : Int) := by decide +kernel
theorem by_id : ∀ b, b < 128 → vp_nar .byte (Int32.ofNat b) = Int32.ofInt (b : Int) := by decide +kernel
theorem sh_n {n : Nat} (h : n < 256) : vp_nar .short (iI (n : Int)).toInt16.toInt32 = iI (n : Int) := by
  have e := (sh_256 n h).1
  rw [iI_nat] at e
  exact e
theorem sh_i {n : Nat} (h : n < 256) : vp_nar .short (iI (n : Int)) = iI (n : Int) := by
  have e := (sh_256 n h).2
  rw [iI_nat] at e
  exact e
theorem by_i {k : Int} (h : 0 ≤ k ∧ k < 128) : vp_nar .byte (iI k) = iI k := by
  obtain ⟨n, rfl⟩ := Int.eq_ofNat_of_zero_le h.1
  have e := by_id n (by omega)
  rw [iI_nat] at e
  exact e
abbrev rlA : List Nat := [8, 9, 10, 11, 12]
/-- lines read so far -/
def CLM (μ : wS) (ms : List (Int × Int)) : Prop := μ.2.2.1 10 1 = iI (ms.length : Int) ∧ rwL (fun x => x) (fun j => μ.2.2.1 11 (61 + j)) (fun j => μ.2.2.1 12 (61 + j)) ms
theorem CLM.fr {μ μ' : wS} {ms : List (Int × Int)} (h : CLM μ ms) (hF : Fr rmI [] rmA [] μ μ') : CLM μ' ms := by
  obtain ⟨h1, h2⟩ := h
  refine ⟨?_, h2.up (fun j _ => ⟨?_, ?_⟩)⟩
  · rw [hF.2.2.1 10 (by decide)]
    exact h1
  · show μ'.2.2.1 11 (61 + j) = _
    rw [hF.2.2.1 11 (by decide)]
  · show μ'.2.2.1 12 (61 + j) = _
    rw [hF.2.2.1 12 (by decide)]
theorem Lo.fr {lo μ μ' : wS} {I J A B : List Nat} (h : Lo lo μ) (hF : Fr I J A B μ μ') (hk : ¬ 8 ∈ A ∧ ¬ 9 ∈ A ∧ ¬ 10 ∈ A ∧ ¬ 11 ∈ A ∧ ¬ 12 ∈ A) : Lo lo μ' := by
  unfold Lo
  rw [hF.2.2.1 8 hk.1, hF.2.2.1 9 hk.2.1, hF.2.2.1 10 hk.2.2.1, hF.2.2.1 11 hk.2.2.2.1, hF.2.2.1 12 hk.2.2.2.2]
  exact h
theorem CM.fr {lo : wS} {q : Nat → Int} {L o p s : Nat} {c : List (Int × Int)} {μ μ' : wS} {I J A B : List Nat} (h : CM lo q L o μ p c s) (hLo : Lo lo μ → Lo lo μ') (hF : Fr I J A B μ μ') (hk : (¬ 12 ∈ I ∧ ¬ 13 ∈ I ∧ ¬ 14 ∈ I ∧ ¬ 15 ∈ I ∧ ¬ 16 ∈ I) ∧ ¬ 7 ∈ A ∧ ¬ 8 ∈ A ∧ ¬ 9 ∈ A) : CM lo q L o μ' p c s := by
  obtain ⟨⟨h1, h2, h3, h4⟩, h5, h6, h7, h8, h9⟩ := h
  refine ⟨⟨(hF.1 12 hk.1.1).trans h1, (hF.1 13 hk.1.2.1).trans h2, ?_, h4⟩, (hF.1 14 hk.1.2.2.1).trans h5, (hF.1 15 hk.1.2.2.2.1).trans h6, (hF.1 16 hk.1.2.2.2.2).trans h7, ?_, h9⟩
  · rw [hF.2.2.1 7 hk.2.1]
    exact ⟨h3.1, hLo h3.2⟩
  · rw [hF.2.2.1 8 hk.2.2.1, hF.2.2.1 9 hk.2.2.2]
    exact h8
theorem XM.fr {lo : wS} {q : Nat → Int} {L f s : Nat} {μ μ' : wS} {I J A B : List Nat} (h : XM lo q L μ f s) (hLo : Lo lo μ → Lo lo μ') (hF : Fr I J A B μ μ') (hk : (¬ 12 ∈ I ∧ ¬ 13 ∈ I ∧ ¬ 14 ∈ I ∧ ¬ 16 ∈ I) ∧ ¬ 7 ∈ A) : XM lo q L μ' f s := by
  obtain ⟨⟨h1, h2, h3, h4⟩, h5, l, h6, h7⟩ := h
  refine ⟨⟨(hF.1 12 hk.1.1).trans h1, (hF.1 13 hk.1.2.1).trans h2, ?_, h4⟩, (hF.1 14 hk.1.2.2.1).trans h5, l, (hF.1 16 hk.1.2.2.2).trans h6, h7⟩
  rw [hF.2.2.1 7 hk.2]
  exact ⟨h3.1, hLo h3.2⟩
def rLnM (lo : wS) (q : Nat → Int) (L : Nat) (μ : wS) (x : Bool × Nat × List (Int × Int) × Nat) (ms : List (Int × Int)) (R : mc_R) : Prop := ∃ μ', R = (none, mkM μ', 0, 0) ∧ ((x.1 = true ∧ CM lo q L 0 μ' x.2.1 x.2.2.1 0 ∧ CLM μ' (mk x :: ms)) ∨ (x.1 = false ∧ XM lo q L μ' x.2.1 0)) ∧ Fr rmI [] rlA [] μ μ'
section
variable {lo : wS} {q : Nat → Int} {L : Nat}
set_option maxRecDepth 100000 in
set_option maxHeartbeats 8000000 in
theorem ct_lineM {D p : Nat} {c ms : List (Int × Int)} {μ : wS} (hD : 50 ≤ D) (hq : TQ q L) (hI : CM lo q L 0 μ p c 0) (hC : CLM μ ms) (hm : ms.length ≤ 60) : EvP D 192 [.ref 0] (mkM μ) (rLnM lo q L μ (lnS q p c) ms) := by
  obtain ⟨D, rfl⟩ : ∃ D', D = D' + 50 := ⟨D - 50, by omega⟩
  have hL := hq.1
  have hT := pTMm_5 (lo := lo) hq (pOm_all hq 6)
  have e10 : (1 : Int32).toNatClampNeg = 1 := by decide
  have hk : 61 + μ.2.2.1 10 1 = iI ((61 + ms.length : Nat) : Int) := by
    rw [hC.1, iI_lit, iI_add]
    rfl
  have ek : (iI ((61 + ms.length : Nat) : Int)).toNatClampNeg = 61 + ms.length := by
    rw [k_cl (by omega)]
    omega
  have h16 := hI.2.2.2.1
  have hcs := hI.2.2.2.2.2
  have hpL := hI.1.2.2.2
  -- behind the line: its end is noted
  have fin : ∀ (μ1 : wS) (l f : Nat) (Q : mc_R → Prop), μ1.1 16 = iI (l : Int) → l ≤ 125 → CLM μ1 ms → μ1.2.2.1 11 (61 + ms.length) = iI (f : Int) → (∀ μ2, CLM μ2 (((f : Int), (l : Int)) :: ms) → (Lo lo μ1 → Lo lo μ2) → Fr [] [] [10, 12] [] μ1 μ2 → Q (none, mkM μ2, 0, 0)) → GoP (D + 49) tb_X11_line (66, [some (.ref 0), some (.int (iI ((61 + ms.length : Nat) : Int)))], [], mkM μ1, 0, 0) Q := by
    intro μ1 l f Q g16 hl g1 gf hQ
    have g10 := g1.1
    have hF : Fr [] [] [10, 12] [] μ1 (sA (sA μ1 12 (upd (μ1.2.2.1 12) (61 + ms.length) (iI (l : Int)))) 10 (upd (μ1.2.2.1 10) 1 (iI ((ms.length + 1 : Nat) : Int)))) := (Fr.sA (by decide)).tr (Fr.sA (by decide))
    have hq2 := hQ (sA (sA μ1 12 (upd (μ1.2.2.1 12) (61 + ms.length) (iI (l : Int)))) 10 (upd (μ1.2.2.1 10) 1 (iI ((ms.length + 1 : Nat) : Int)))) ⟨rfl, ⟨⟨gf, k_upe rfl⟩, g1.2.up (fun j hj => ⟨rfl, k_upn (by omega)⟩)⟩⟩ (fun z => ⟨z.1, fun j hj => ⟨(z.2.1 j hj).1, (k_upn (show ¬ j = 61 + ms.length by omega)).trans (z.2.1 j hj).2⟩, z.2.2⟩) hF
    have e1 : μ1.2.2.1 10 (1 : Int32).toNatClampNeg + 1 = iI ((ms.length + 1 : Nat) : Int) := by
      rw [e10, g10, iI_lit, iI_add]
      rfl
    have e2 : vp_nar .short (μ1.1 16).toInt16.toInt32 = iI (l : Int) := by
      rw [g16]
      exact sh_n (by omega)
    repeat' first
      | ((with_reducible apply GoP.k0); exact rfl; exact rfl)
      | ((with_reducible apply GoP.k1); exact rfl; exact rfl; all_goals (intro h; (try simp (disch := omega) only [jJ_lit, jJ_add, jJ_mul, iI_long, jJ_toI, l_lt, l_ge, l_gt, l_le, l_eq, l_ne, jJ_inj, k_ule, k_uln, iI_lit, iI_nat, iI_neg, iI_add, iI_sub, iI_mul, k_lt, k_ge, k_gt, k_le, k_eq, k_ne, k_cl, k_in, iI_inj, k_upe, k_upn, k_wue, k_wun, sI_1, sI_2, sI_3, sI_4, sJ_1, sJ_2, sJ_3, sJ_4, sA_1, sA_2, sA_3, sA_4, sB_1, sB_2, sB_3, sB_4, decide_eq_true_eq, decide_eq_false_iff_not, reduceCtorEq, Int.toNat_natCast, Bool.and_true, mc_tf, List.getD_cons_zero, List.getD_cons_succ, Int.reduceToNat, Int.reduceAdd, Int.reduceSub, Int.reduceMul, Int.reduceNeg, Int.reduceLT, Int.reduceLE, Int.reduceEq, not_true_eq_false, not_false_eq_true, decide_true, decide_false] at h); (try (exfalso; omega))))
      | ((with_reducible apply GoP.k2); exact rfl; exact rfl; focus ((simp (disch := omega) only [jJ_lit, jJ_add, jJ_mul, iI_long, jJ_toI, l_lt, l_ge, l_gt, l_le, l_eq, l_ne, jJ_inj, k_ule, k_uln, iI_lit, iI_nat, iI_neg, iI_add, iI_sub, iI_mul, k_lt, k_ge, k_gt, k_le, k_eq, k_ne, k_cl, k_in, iI_inj, k_upe, k_upn, k_wue, k_wun, sI_1, sI_2, sI_3, sI_4, sJ_1, sJ_2, sJ_3, sJ_4, sA_1, sA_2, sA_3, sA_4, sB_1, sB_2, sB_3, sB_4, decide_eq_true_eq, decide_eq_false_iff_not, reduceCtorEq, Int.toNat_natCast, Bool.and_true, mc_tf, List.getD_cons_zero, List.getD_cons_succ, Int.reduceToNat, Int.reduceAdd, Int.reduceSub, Int.reduceMul, Int.reduceNeg, Int.reduceLT, Int.reduceLE, Int.reduceEq, not_true_eq_false, not_false_eq_true, decide_true, decide_false]) <;> omega))
      | ((with_reducible apply GoP.k4); exact rfl; exact rfl; exact rfl; try dsimp only [Option.toList, List.cons_append, List.nil_append])
      | ((with_reducible apply GoP.k5); exact rfl; exact rfl)
      | ((with_reducible apply GoA.sw); all_goals (intro h; (try simp (disch := omega) only [jJ_lit, jJ_add, jJ_mul, iI_long, jJ_toI, l_lt, l_ge, l_gt, l_le, l_eq, l_ne, jJ_inj, k_ule, k_uln, iI_lit, iI_nat, iI_neg, iI_add, iI_sub, iI_mul, k_lt, k_ge, k_gt, k_le, k_eq, k_ne, k_cl, k_in, iI_inj, k_upe, k_upn, k_wue, k_wun, sI_1, sI_2, sI_3, sI_4, sJ_1, sJ_2, sJ_3, sJ_4, sA_1, sA_2, sA_3, sA_4, sB_1, sB_2, sB_3, sB_4, decide_eq_true_eq, decide_eq_false_iff_not, reduceCtorEq, Int.toNat_natCast, Bool.and_true, mc_tf, List.getD_cons_zero, List.getD_cons_succ, Int.reduceToNat, Int.reduceAdd, Int.reduceSub, Int.reduceMul, Int.reduceNeg, Int.reduceLT, Int.reduceLE, Int.reduceEq, not_true_eq_false, not_false_eq_true, decide_true, decide_false] at h); (try (exfalso; omega))))
      | ((with_reducible apply GoA.sw0))
      | ((with_reducible apply GoA.c); all_goals (intro h; (try simp (disch := omega) only [jJ_lit, jJ_add, jJ_mul, iI_long, jJ_toI, l_lt, l_ge, l_gt, l_le, l_eq, l_ne, jJ_inj, k_ule, k_uln, iI_lit, iI_nat, iI_neg, iI_add, iI_sub, iI_mul, k_lt, k_ge, k_gt, k_le, k_eq, k_ne, k_cl, k_in, iI_inj, k_upe, k_upn, k_wue, k_wun, sI_1, sI_2, sI_3, sI_4, sJ_1, sJ_2, sJ_3, sJ_4, sA_1, sA_2, sA_3, sA_4, sB_1, sB_2, sB_3, sB_4, decide_eq_true_eq, decide_eq_false_iff_not, reduceCtorEq, Int.toNat_natCast, Bool.and_true, mc_tf, List.getD_cons_zero, List.getD_cons_succ, Int.reduceToNat, Int.reduceAdd, Int.reduceSub, Int.reduceMul, Int.reduceNeg, Int.reduceLT, Int.reduceLE, Int.reduceEq, not_true_eq_false, not_false_eq_true, decide_true, decide_false] at h); (try (exfalso; omega))))
    show Q (none, mkM (sA (sA μ1 12 (upd (μ1.2.2.1 12) (iI ((61 + ms.length : Nat) : Int)).toNatClampNeg (vp_nar .short (μ1.1 16).toInt16.toInt32))) 10 (upd (μ1.2.2.1 10) (1 : Int32).toNatClampNeg (μ1.2.2.1 10 (1 : Int32).toNatClampNeg + 1))), 0, 0)
    rw [e1, e2, ek, e10]
    exact hq2
  -- the first part's end is noted
  have note : ∀ (μ1 : wS) (l : Nat), μ1.1 16 = iI (l : Int) → l ≤ 125 → vp_nar .short (μ1.1 16).toInt16.toInt32 = iI (l : Int) := by
    intro μ1 l g hl
    rw [g]
    exact sh_n (by omega)
  have hn1 := note μ c.length h16 (by omega)
  have keepI : ∀ (μ1 : wS) (x : Int32) {p s : Nat} {c : List (Int × Int)}, CM lo q L 0 μ1 p c s → CM lo q L 0 (sA μ1 11 (upd (μ1.2.2.1 11) (61 + ms.length) x)) p c s := fun μ1 x _ _ _ z => ⟨⟨z.1.1, z.1.2.1, ⟨z.1.2.2.1.1, ⟨z.1.2.2.1.2.1, fun j hj => ⟨(k_upn (show ¬ j = 61 + ms.length by omega)).trans (z.1.2.2.1.2.2.1 j hj).1, (z.1.2.2.1.2.2.1 j hj).2⟩, z.1.2.2.1.2.2.2⟩⟩, z.1.2.2.2⟩, z.2⟩
  have keepC : ∀ (μ1 : wS) (x : Int32), CLM μ1 ms → CLM (sA μ1 11 (upd (μ1.2.2.1 11) (61 + ms.length) x)) ms := fun μ1 x z => ⟨z.1, z.2.up (fun j hj => ⟨k_upn (by omega), rfl⟩)⟩
  have h11 : μ.2.2.1 10 (1 : Int32).toNatClampNeg = μ.2.2.1 10 1 := by rw [e10]
  refine EvP.kof (T := tb_X11_line) rfl rfl ?_
  dsimp only [mc_pad, mc_exp]
  repeat' first
    | ((with_reducible apply GoP.k0); exact rfl; exact rfl)
    | ((with_reducible apply GoP.k1); exact rfl; exact rfl; all_goals (intro h; (try simp (disch := omega) only [jJ_lit, jJ_add, jJ_mul, iI_long, jJ_toI, l_lt, l_ge, l_gt, l_le, l_eq, l_ne, jJ_inj, k_ule, k_uln, iI_lit, iI_nat, iI_neg, iI_add, iI_sub, iI_mul, k_lt, k_ge, k_gt, k_le, k_eq, k_ne, k_cl, k_in, iI_inj, k_upe, k_upn, k_wue, k_wun, sI_1, sI_2, sI_3, sI_4, sJ_1, sJ_2, sJ_3, sJ_4, sA_1, sA_2, sA_3, sA_4, sB_1, sB_2, sB_3, sB_4, decide_eq_true_eq, decide_eq_false_iff_not, reduceCtorEq, Int.toNat_natCast, Bool.and_true, mc_tf, List.getD_cons_zero, List.getD_cons_succ, Int.reduceToNat, Int.reduceAdd, Int.reduceSub, Int.reduceMul, Int.reduceNeg, Int.reduceLT, Int.reduceLE, Int.reduceEq, not_true_eq_false, not_false_eq_true, decide_true, decide_false] at h); (try (exfalso; omega))))
    | ((with_reducible apply GoP.k2); exact rfl; exact rfl; focus ((simp (disch := omega) only [jJ_lit, jJ_add, jJ_mul, iI_long, jJ_toI, l_lt, l_ge, l_gt, l_le, l_eq, l_ne, jJ_inj, k_ule, k_uln, iI_lit, iI_nat, iI_neg, iI_add, iI_sub, iI_mul, k_lt, k_ge, k_gt, k_le, k_eq, k_ne, k_cl, k_in, iI_inj, k_upe, k_upn, k_wue, k_wun, sI_1, sI_2, sI_3, sI_4, sJ_1, sJ_2, sJ_3, sJ_4, sA_1, sA_2, sA_3, sA_4, sB_1, sB_2, sB_3, sB_4, decide_eq_true_eq, decide_eq_false_iff_not, reduceCtorEq, Int.toNat_natCast, Bool.and_true, mc_tf, List.getD_cons_zero, List.getD_cons_succ, Int.reduceToNat, Int.reduceAdd, Int.reduceSub, Int.reduceMul, Int.reduceNeg, Int.reduceLT, Int.reduceLE, Int.reduceEq, not_true_eq_false, not_false_eq_true, decide_true, decide_false]) <;> omega))
    | ((with_reducible apply GoP.k4); exact rfl; exact rfl; exact rfl; try dsimp only [Option.toList, List.cons_append, List.nil_append])
    | ((with_reducible apply GoP.k5); exact rfl; exact rfl)
    | ((with_reducible apply GoA.sw); all_goals (intro h; (try simp (disch := omega) only [jJ_lit, jJ_add, jJ_mul, iI_long, jJ_toI, l_lt, l_ge, l_gt, l_le, l_eq, l_ne, jJ_inj, k_ule, k_uln, iI_lit, iI_nat, iI_neg, iI_add, iI_sub, iI_mul, k_lt, k_ge, k_gt, k_le, k_eq, k_ne, k_cl, k_in, iI_inj, k_upe, k_upn, k_wue, k_wun, sI_1, sI_2, sI_3, sI_4, sJ_1, sJ_2, sJ_3, sJ_4, sA_1, sA_2, sA_3, sA_4, sB_1, sB_2, sB_3, sB_4, decide_eq_true_eq, decide_eq_false_iff_not, reduceCtorEq, Int.toNat_natCast, Bool.and_true, mc_tf, List.getD_cons_zero, List.getD_cons_succ, Int.reduceToNat, Int.reduceAdd, Int.reduceSub, Int.reduceMul, Int.reduceNeg, Int.reduceLT, Int.reduceLE, Int.reduceEq, not_true_eq_false, not_false_eq_true, decide_true, decide_false] at h); (try (exfalso; omega))))
    | ((with_reducible apply GoA.sw0))
    | ((with_reducible apply GoA.c); all_goals (intro h; (try simp (disch := omega) only [jJ_lit, jJ_add, jJ_mul, iI_long, jJ_toI, l_lt, l_ge, l_gt, l_le, l_eq, l_ne, jJ_inj, k_ule, k_uln, iI_lit, iI_nat, iI_neg, iI_add, iI_sub, iI_mul, k_lt, k_ge, k_gt, k_le, k_eq, k_ne, k_cl, k_in, iI_inj, k_upe, k_upn, k_wue, k_wun, sI_1, sI_2, sI_3, sI_4, sJ_1, sJ_2, sJ_3, sJ_4, sA_1, sA_2, sA_3, sA_4, sB_1, sB_2, sB_3, sB_4, decide_eq_true_eq, decide_eq_false_iff_not, reduceCtorEq, Int.toNat_natCast, Bool.and_true, mc_tf, List.getD_cons_zero, List.getD_cons_succ, Int.reduceToNat, Int.reduceAdd, Int.reduceSub, Int.reduceMul, Int.reduceNeg, Int.reduceLT, Int.reduceLE, Int.reduceEq, not_true_eq_false, not_false_eq_true, decide_true, decide_false] at h); (try (exfalso; omega))))
  show GoP _ _ (_, [_, some (.int (61 + μ.2.2.1 10 (1 : Int32).toNatClampNeg))], _, mkM μ, _, _) _
  rw [h11, hk]
  repeat' first
    | ((with_reducible apply GoP.k0); exact rfl; exact rfl)
    | ((with_reducible apply GoP.k1); exact rfl; exact rfl; all_goals (intro h; (try simp (disch := omega) only [jJ_lit, jJ_add, jJ_mul, iI_long, jJ_toI, l_lt, l_ge, l_gt, l_le, l_eq, l_ne, jJ_inj, k_ule, k_uln, iI_lit, iI_nat, iI_neg, iI_add, iI_sub, iI_mul, k_lt, k_ge, k_gt, k_le, k_eq, k_ne, k_cl, k_in, iI_inj, k_upe, k_upn, k_wue, k_wun, sI_1, sI_2, sI_3, sI_4, sJ_1, sJ_2, sJ_3, sJ_4, sA_1, sA_2, sA_3, sA_4, sB_1, sB_2, sB_3, sB_4, decide_eq_true_eq, decide_eq_false_iff_not, reduceCtorEq, Int.toNat_natCast, Bool.and_true, mc_tf, List.getD_cons_zero, List.getD_cons_succ, Int.reduceToNat, Int.reduceAdd, Int.reduceSub, Int.reduceMul, Int.reduceNeg, Int.reduceLT, Int.reduceLE, Int.reduceEq, not_true_eq_false, not_false_eq_true, decide_true, decide_false] at h); (try (exfalso; omega))))
    | ((with_reducible apply GoP.k2); exact rfl; exact rfl; focus ((simp (disch := omega) only [jJ_lit, jJ_add, jJ_mul, iI_long, jJ_toI, l_lt, l_ge, l_gt, l_le, l_eq, l_ne, jJ_inj, k_ule, k_uln, iI_lit, iI_nat, iI_neg, iI_add, iI_sub, iI_mul, k_lt, k_ge, k_gt, k_le, k_eq, k_ne, k_cl, k_in, iI_inj, k_upe, k_upn, k_wue, k_wun, sI_1, sI_2, sI_3, sI_4, sJ_1, sJ_2, sJ_3, sJ_4, sA_1, sA_2, sA_3, sA_4, sB_1, sB_2, sB_3, sB_4, decide_eq_true_eq, decide_eq_false_iff_not, reduceCtorEq, Int.toNat_natCast, Bool.and_true, mc_tf, List.getD_cons_zero, List.getD_cons_succ, Int.reduceToNat, Int.reduceAdd, Int.reduceSub, Int.reduceMul, Int.reduceNeg, Int.reduceLT, Int.reduceLE, Int.reduceEq, not_true_eq_false, not_false_eq_true, decide_true, decide_false]) <;> omega))
    | ((with_reducible apply GoP.k4); exact rfl; exact rfl; exact rfl; try dsimp only [Option.toList, List.cons_append, List.nil_append])
    | ((with_reducible apply GoP.k5); exact rfl; exact rfl)
    | ((with_reducible apply GoA.sw); all_goals (intro h; (try simp (disch := omega) only [jJ_lit, jJ_add, jJ_mul, iI_long, jJ_toI, l_lt, l_ge, l_gt, l_le, l_eq, l_ne, jJ_inj, k_ule, k_uln, iI_lit, iI_nat, iI_neg, iI_add, iI_sub, iI_mul, k_lt, k_ge, k_gt, k_le, k_eq, k_ne, k_cl, k_in, iI_inj, k_upe, k_upn, k_wue, k_wun, sI_1, sI_2, sI_3, sI_4, sJ_1, sJ_2, sJ_3, sJ_4, sA_1, sA_2, sA_3, sA_4, sB_1, sB_2, sB_3, sB_4, decide_eq_true_eq, decide_eq_false_iff_not, reduceCtorEq, Int.toNat_natCast, Bool.and_true, mc_tf, List.getD_cons_zero, List.getD_cons_succ, Int.reduceToNat, Int.reduceAdd, Int.reduceSub, Int.reduceMul, Int.reduceNeg, Int.reduceLT, Int.reduceLE, Int.reduceEq, not_true_eq_false, not_false_eq_true, decide_true, decide_false] at h); (try (exfalso; omega))))
    | ((with_reducible apply GoA.sw0))
    | ((with_reducible apply GoA.c); all_goals (intro h; (try simp (disch := omega) only [jJ_lit, jJ_add, jJ_mul, iI_long, jJ_toI, l_lt, l_ge, l_gt, l_le, l_eq, l_ne, jJ_inj, k_ule, k_uln, iI_lit, iI_nat, iI_neg, iI_add, iI_sub, iI_mul, k_lt, k_ge, k_gt, k_le, k_eq, k_ne, k_cl, k_in, iI_inj, k_upe, k_upn, k_wue, k_wun, sI_1, sI_2, sI_3, sI_4, sJ_1, sJ_2, sJ_3, sJ_4, sA_1, sA_2, sA_3, sA_4, sB_1, sB_2, sB_3, sB_4, decide_eq_true_eq, decide_eq_false_iff_not, reduceCtorEq, Int.toNat_natCast, Bool.and_true, mc_tf, List.getD_cons_zero, List.getD_cons_succ, Int.reduceToNat, Int.reduceAdd, Int.reduceSub, Int.reduceMul, Int.reduceNeg, Int.reduceLT, Int.reduceLE, Int.reduceEq, not_true_eq_false, not_false_eq_true, decide_true, decide_false] at h); (try (exfalso; omega))))
  rw [ek, hn1]
  obtain ⟨μa, hμa⟩ : ∃ μa, μa = sA μ 11 (upd (μ.2.2.1 11) (61 + ms.length) (iI (c.length : Int))) := ⟨_, rfl⟩
  have hIa : CM lo q L 0 μa p c 0 := by
    rw [hμa]
    exact keepI μ _ hI
  have hCa : CLM μa ms := by
    rw [hμa]
    exact keepC μ _ hC
  have hfa : μa.2.2.1 11 (61 + ms.length) = iI (c.length : Int) := by
    rw [hμa]
    exact k_upe rfl
  have hFa : Fr rmI [] rlA [] μ μa := by
    rw [hμa]
    exact Fr.sA (by decide)
  show GoP _ _ (_, _, _, mkM (sA μ 11 (upd (μ.2.2.1 11) (61 + ms.length) (iI (c.length : Int)))), _, _) _
  rw [← hμa]
  refine GoP.kc rfl (hT (D + 49) 0 p 0 c μa (by omega) rfl hIa) ?_
  rintro R ⟨μ1, rfl, hor, hF1⟩
  dsimp only [Option.toList, List.cons_append, List.nil_append]
  have hFb : Fr rmI [] rlA [] μ μ1 := hFa.tr (hF1.up (by decide))
  have hCb := hCa.fr hF1
  have hfb : μ1.2.2.1 11 (61 + ms.length) = iI (c.length : Int) := by
    rw [hF1.2.2.1 11 (by decide)]
    exact hfa
  rcases hor with ⟨g1, hI1⟩ | ⟨g1, hX1⟩
  · have hr := hq.rg (eE q p).2.1
    have hsg := sgI_or (q (eE q p).2.1)
    have hr1 : -1 ≤ q (tL q (opd q 6) 5 p).2.1 ∧ q (tL q (opd q 6) 5 p).2.1 < 256 := hr
    have hsg1 : (q (tL q (opd q 6) 5 p).2.1 < 128 ∧ sgI (q (tL q (opd q 6) 5 p).2.1) = q (tL q (opd q 6) 5 p).2.1) ∨ (128 ≤ q (tL q (opd q 6) 5 p).2.1 ∧ sgI (q (tL q (opd q 6) 5 p).2.1) = q (tL q (opd q 6) 5 p).2.1 - 256) := hsg
    have hlk := ct_lookM (D := D + 49) (by omega) hq hI1.1
    have h14 := hI1.2.1
    have h13 := hI1.1.2.1
    have hle := hI1.2.2.2.2.2
    have hpl := hI1.1.2.2.2
    by_cases h63 : q (tL q (opd q 6) 5 p).2.1 = 63
    · have hp2 : (tL q (opd q 6) 5 p).2.1 < L := hq.lt (by omega)
      have e1 : μ1.1 13 + 1 = iI (((tL q (opd q 6) 5 p).2.1 + 1 : Nat) : Int) := by
        rw [h13, iI_lit, iI_add]
        rfl
      have hn2 := note μ1 _ hI1.2.2.2.1 (by omega)
      obtain ⟨μb, hμb⟩ : ∃ μb, μb = sA (sI μ1 13 (iI (((tL q (opd q 6) 5 p).2.1 + 1 : Nat) : Int))) 11 (upd (μ1.2.2.1 11) (61 + ms.length) (iI (((tL q (opd q 6) 5 p).2.2 ++ c).length : Int))) := ⟨_, rfl⟩
      have hIb : CM lo q L 0 μb ((tL q (opd q 6) 5 p).2.1 + 1) ((tL q (opd q 6) 5 p).2.2 ++ c) 1 := by
        rw [hμb]
        exact keepI _ _ (hI1.nx hp2)
      have hCc : CLM μb ms := by
        rw [hμb]
        exact keepC (sI μ1 13 (iI (((tL q (opd q 6) 5 p).2.1 + 1 : Nat) : Int))) _ hCb
      have hfc : μb.2.2.1 11 (61 + ms.length) = iI (((tL q (opd q 6) 5 p).2.2 ++ c).length : Int) := by
        rw [hμb]
        exact k_upe rfl
      have hFc : Fr rmI [] rlA [] μ μb := by
        rw [hμb]
        exact (hFb.tr (Fr.sI (by decide))).tr (Fr.sA (by decide))
      repeat' first
        | ((with_reducible apply GoP.k0); exact rfl; exact rfl)
        | ((with_reducible apply GoP.k1); exact rfl; exact rfl; all_goals (intro h; (try simp (disch := omega) only [jJ_lit, jJ_add, jJ_mul, iI_long, jJ_toI, l_lt, l_ge, l_gt, l_le, l_eq, l_ne, jJ_inj, k_ule, k_uln, iI_lit, iI_nat, iI_neg, iI_add, iI_sub, iI_mul, k_lt, k_ge, k_gt, k_le, k_eq, k_ne, k_cl, k_in, iI_inj, k_upe, k_upn, k_wue, k_wun, sI_1, sI_2, sI_3, sI_4, sJ_1, sJ_2, sJ_3, sJ_4, sA_1, sA_2, sA_3, sA_4, sB_1, sB_2, sB_3, sB_4, decide_eq_true_eq, decide_eq_false_iff_not, reduceCtorEq, Int.toNat_natCast, Bool.and_true, mc_tf, List.getD_cons_zero, List.getD_cons_succ, Int.reduceToNat, Int.reduceAdd, Int.reduceSub, Int.reduceMul, Int.reduceNeg, Int.reduceLT, Int.reduceLE, Int.reduceEq, not_true_eq_false, not_false_eq_true, decide_true, decide_false, h14] at h); (try (exfalso; omega))))
        | ((with_reducible apply GoP.k2); exact rfl; exact rfl; focus ((simp (disch := omega) only [jJ_lit, jJ_add, jJ_mul, iI_long, jJ_toI, l_lt, l_ge, l_gt, l_le, l_eq, l_ne, jJ_inj, k_ule, k_uln, iI_lit, iI_nat, iI_neg, iI_add, iI_sub, iI_mul, k_lt, k_ge, k_gt, k_le, k_eq, k_ne, k_cl, k_in, iI_inj, k_upe, k_upn, k_wue, k_wun, sI_1, sI_2, sI_3, sI_4, sJ_1, sJ_2, sJ_3, sJ_4, sA_1, sA_2, sA_3, sA_4, sB_1, sB_2, sB_3, sB_4, decide_eq_true_eq, decide_eq_false_iff_not, reduceCtorEq, Int.toNat_natCast, Bool.and_true, mc_tf, List.getD_cons_zero, List.getD_cons_succ, Int.reduceToNat, Int.reduceAdd, Int.reduceSub, Int.reduceMul, Int.reduceNeg, Int.reduceLT, Int.reduceLE, Int.reduceEq, not_true_eq_false, not_false_eq_true, decide_true, decide_false, h14]) <;> omega))
        | ((with_reducible apply GoP.k4); exact rfl; exact rfl; exact rfl; try dsimp only [Option.toList, List.cons_append, List.nil_append])
        | ((with_reducible apply GoP.k5); exact rfl; exact rfl)
        | ((with_reducible apply GoA.sw); all_goals (intro h; (try simp (disch := omega) only [jJ_lit, jJ_add, jJ_mul, iI_long, jJ_toI, l_lt, l_ge, l_gt, l_le, l_eq, l_ne, jJ_inj, k_ule, k_uln, iI_lit, iI_nat, iI_neg, iI_add, iI_sub, iI_mul, k_lt, k_ge, k_gt, k_le, k_eq, k_ne, k_cl, k_in, iI_inj, k_upe, k_upn, k_wue, k_wun, sI_1, sI_2, sI_3, sI_4, sJ_1, sJ_2, sJ_3, sJ_4, sA_1, sA_2, sA_3, sA_4, sB_1, sB_2, sB_3, sB_4, decide_eq_true_eq, decide_eq_false_iff_not, reduceCtorEq, Int.toNat_natCast, Bool.and_true, mc_tf, List.getD_cons_zero, List.getD_cons_succ, Int.reduceToNat, Int.reduceAdd, Int.reduceSub, Int.reduceMul, Int.reduceNeg, Int.reduceLT, Int.reduceLE, Int.reduceEq, not_true_eq_false, not_false_eq_true, decide_true, decide_false, h14] at h); (try (exfalso; omega))))
        | ((with_reducible apply GoA.sw0))
        | ((with_reducible apply GoA.c); all_goals (intro h; (try simp (disch := omega) only [jJ_lit, jJ_add, jJ_mul, iI_long, jJ_toI, l_lt, l_ge, l_gt, l_le, l_eq, l_ne, jJ_inj, k_ule, k_uln, iI_lit, iI_nat, iI_neg, iI_add, iI_sub, iI_mul, k_lt, k_ge, k_gt, k_le, k_eq, k_ne, k_cl, k_in, iI_inj, k_upe, k_upn, k_wue, k_wun, sI_1, sI_2, sI_3, sI_4, sJ_1, sJ_2, sJ_3, sJ_4, sA_1, sA_2, sA_3, sA_4, sB_1, sB_2, sB_3, sB_4, decide_eq_true_eq, decide_eq_false_iff_not, reduceCtorEq, Int.toNat_natCast, Bool.and_true, mc_tf, List.getD_cons_zero, List.getD_cons_succ, Int.reduceToNat, Int.reduceAdd, Int.reduceSub, Int.reduceMul, Int.reduceNeg, Int.reduceLT, Int.reduceLE, Int.reduceEq, not_true_eq_false, not_false_eq_true, decide_true, decide_false, h14] at h); (try (exfalso; omega))))
      refine GoP.ke rfl (hlk) ?_
      dsimp only [Option.toList, List.cons_append, List.nil_append]
      repeat' first
        | ((with_reducible apply GoP.k0); exact rfl; exact rfl)
        | ((with_reducible apply GoP.k1); exact rfl; exact rfl; all_goals (intro h; (try simp (disch := omega) only [jJ_lit, jJ_add, jJ_mul, iI_long, jJ_toI, l_lt, l_ge, l_gt, l_le, l_eq, l_ne, jJ_inj, k_ule, k_uln, iI_lit, iI_nat, iI_neg, iI_add, iI_sub, iI_mul, k_lt, k_ge, k_gt, k_le, k_eq, k_ne, k_cl, k_in, iI_inj, k_upe, k_upn, k_wue, k_wun, sI_1, sI_2, sI_3, sI_4, sJ_1, sJ_2, sJ_3, sJ_4, sA_1, sA_2, sA_3, sA_4, sB_1, sB_2, sB_3, sB_4, decide_eq_true_eq, decide_eq_false_iff_not, reduceCtorEq, Int.toNat_natCast, Bool.and_true, mc_tf, List.getD_cons_zero, List.getD_cons_succ, Int.reduceToNat, Int.reduceAdd, Int.reduceSub, Int.reduceMul, Int.reduceNeg, Int.reduceLT, Int.reduceLE, Int.reduceEq, not_true_eq_false, not_false_eq_true, decide_true, decide_false] at h); (try (exfalso; omega))))
        | ((with_reducible apply GoP.k2); exact rfl; exact rfl; focus ((simp (disch := omega) only [jJ_lit, jJ_add, jJ_mul, iI_long, jJ_toI, l_lt, l_ge, l_gt, l_le, l_eq, l_ne, jJ_inj, k_ule, k_uln, iI_lit, iI_nat, iI_neg, iI_add, iI_sub, iI_mul, k_lt, k_ge, k_gt, k_le, k_eq, k_ne, k_cl, k_in, iI_inj, k_upe, k_upn, k_wue, k_wun, sI_1, sI_2, sI_3, sI_4, sJ_1, sJ_2, sJ_3, sJ_4, sA_1, sA_2, sA_3, sA_4, sB_1, sB_2, sB_3, sB_4, decide_eq_true_eq, decide_eq_false_iff_not, reduceCtorEq, Int.toNat_natCast, Bool.and_true, mc_tf, List.getD_cons_zero, List.getD_cons_succ, Int.reduceToNat, Int.reduceAdd, Int.reduceSub, Int.reduceMul, Int.reduceNeg, Int.reduceLT, Int.reduceLE, Int.reduceEq, not_true_eq_false, not_false_eq_true, decide_true, decide_false]) <;> omega))
        | ((with_reducible apply GoP.k4); exact rfl; exact rfl; exact rfl; try dsimp only [Option.toList, List.cons_append, List.nil_append])
        | ((with_reducible apply GoP.k5); exact rfl; exact rfl)
        | ((with_reducible apply GoA.sw); all_goals (intro h; (try simp (disch := omega) only [jJ_lit, jJ_add, jJ_mul, iI_long, jJ_toI, l_lt, l_ge, l_gt, l_le, l_eq, l_ne, jJ_inj, k_ule, k_uln, iI_lit, iI_nat, iI_neg, iI_add, iI_sub, iI_mul, k_lt, k_ge, k_gt, k_le, k_eq, k_ne, k_cl, k_in, iI_inj, k_upe, k_upn, k_wue, k_wun, sI_1, sI_2, sI_3, sI_4, sJ_1, sJ_2, sJ_3, sJ_4, sA_1, sA_2, sA_3, sA_4, sB_1, sB_2, sB_3, sB_4, decide_eq_true_eq, decide_eq_false_iff_not, reduceCtorEq, Int.toNat_natCast, Bool.and_true, mc_tf, List.getD_cons_zero, List.getD_cons_succ, Int.reduceToNat, Int.reduceAdd, Int.reduceSub, Int.reduceMul, Int.reduceNeg, Int.reduceLT, Int.reduceLE, Int.reduceEq, not_true_eq_false, not_false_eq_true, decide_true, decide_false] at h); (try (exfalso; omega))))
        | ((with_reducible apply GoA.sw0))
        | ((with_reducible apply GoA.c); all_goals (intro h; (try simp (disch := omega) only [jJ_lit, jJ_add, jJ_mul, iI_long, jJ_toI, l_lt, l_ge, l_gt, l_le, l_eq, l_ne, jJ_inj, k_ule, k_uln, iI_lit, iI_nat, iI_neg, iI_add, iI_sub, iI_mul, k_lt, k_ge, k_gt, k_le, k_eq, k_ne, k_cl, k_in, iI_inj, k_upe, k_upn, k_wue, k_wun, sI_1, sI_2, sI_3, sI_4, sJ_1, sJ_2, sJ_3, sJ_4, sA_1, sA_2, sA_3, sA_4, sB_1, sB_2, sB_3, sB_4, decide_eq_true_eq, decide_eq_false_iff_not, reduceCtorEq, Int.toNat_natCast, Bool.and_true, mc_tf, List.getD_cons_zero, List.getD_cons_succ, Int.reduceToNat, Int.reduceAdd, Int.reduceSub, Int.reduceMul, Int.reduceNeg, Int.reduceLT, Int.reduceLE, Int.reduceEq, not_true_eq_false, not_false_eq_true, decide_true, decide_false] at h); (try (exfalso; omega))))
      rw [ek, hn2, e1]
      show GoP _ _ (_, _, _, mkM (sA (sI μ1 13 (iI (((tL q (opd q 6) 5 p).2.1 + 1 : Nat) : Int))) 11 (upd (μ1.2.2.1 11) (61 + ms.length) (iI (((tL q (opd q 6) 5 p).2.2 ++ c).length : Int)))), _, _) _
      rw [← hμb]
      refine GoP.kc rfl (hT (D + 49) 0 _ 1 _ μb (by omega) rfl hIb) ?_
      rintro R ⟨μ2, rfl, hor, hF2⟩
      dsimp only [Option.toList, List.cons_append, List.nil_append]
      have hFd : Fr rmI [] rlA [] μ μ2 := hFc.tr (hF2.up (by decide))
      have hCd := hCc.fr hF2
      have hfd : μ2.2.2.1 11 (61 + ms.length) = iI (((tL q (opd q 6) 5 p).2.2 ++ c).length : Int) := by
        rw [hF2.2.2.1 11 (by decide)]
        exact hfc
      rcases hor with ⟨k1, hI2⟩ | ⟨k1, hX2⟩
      · rw [lnS_2 g1 h63 k1]
        have hle2 := hI2.2.2.2.2.2
        have hpl2 := hI2.1.2.2.2
        exact fin μ2 _ _ _ hI2.2.2.2.1 (by omega) hCd hfd (fun μ3 d1 d0 d2 => ⟨μ3, rfl, Or.inl ⟨rfl, (hI2.fr d0 d2 (by decide)).le (Nat.zero_le _), d1⟩, hFd.tr (d2.up (by decide))⟩)
      · rw [lnS_3 g1 h63 k1]
        obtain ⟨hT2, h142, l, h162, hl2⟩ := id hX2
        have hpl2 := hT2.2.2.2
        exact fin μ2 l _ _ h162 (by omega) hCd hfd (fun μ3 d1 d0 d2 => ⟨μ3, rfl, Or.inr ⟨rfl, (hX2.fr d0 d2 (by decide)).le (Nat.zero_le _)⟩, hFd.tr (d2.up (by decide))⟩)
    · rw [lnS_1 g1 h63]
      repeat' first
        | ((with_reducible apply GoP.k0); exact rfl; exact rfl)
        | ((with_reducible apply GoP.k1); exact rfl; exact rfl; all_goals (intro h; (try simp (disch := omega) only [jJ_lit, jJ_add, jJ_mul, iI_long, jJ_toI, l_lt, l_ge, l_gt, l_le, l_eq, l_ne, jJ_inj, k_ule, k_uln, iI_lit, iI_nat, iI_neg, iI_add, iI_sub, iI_mul, k_lt, k_ge, k_gt, k_le, k_eq, k_ne, k_cl, k_in, iI_inj, k_upe, k_upn, k_wue, k_wun, sI_1, sI_2, sI_3, sI_4, sJ_1, sJ_2, sJ_3, sJ_4, sA_1, sA_2, sA_3, sA_4, sB_1, sB_2, sB_3, sB_4, decide_eq_true_eq, decide_eq_false_iff_not, reduceCtorEq, Int.toNat_natCast, Bool.and_true, mc_tf, List.getD_cons_zero, List.getD_cons_succ, Int.reduceToNat, Int.reduceAdd, Int.reduceSub, Int.reduceMul, Int.reduceNeg, Int.reduceLT, Int.reduceLE, Int.reduceEq, not_true_eq_false, not_false_eq_true, decide_true, decide_false, h14] at h); (try (exfalso; omega))))
        | ((with_reducible apply GoP.k2); exact rfl; exact rfl; focus ((simp (disch := omega) only [jJ_lit, jJ_add, jJ_mul, iI_long, jJ_toI, l_lt, l_ge, l_gt, l_le, l_eq, l_ne, jJ_inj, k_ule, k_uln, iI_lit, iI_nat, iI_neg, iI_add, iI_sub, iI_mul, k_lt, k_ge, k_gt, k_le, k_eq, k_ne, k_cl, k_in, iI_inj, k_upe, k_upn, k_wue, k_wun, sI_1, sI_2, sI_3, sI_4, sJ_1, sJ_2, sJ_3, sJ_4, sA_1, sA_2, sA_3, sA_4, sB_1, sB_2, sB_3, sB_4, decide_eq_true_eq, decide_eq_false_iff_not, reduceCtorEq, Int.toNat_natCast, Bool.and_true, mc_tf, List.getD_cons_zero, List.getD_cons_succ, Int.reduceToNat, Int.reduceAdd, Int.reduceSub, Int.reduceMul, Int.reduceNeg, Int.reduceLT, Int.reduceLE, Int.reduceEq, not_true_eq_false, not_false_eq_true, decide_true, decide_false, h14]) <;> omega))
        | ((with_reducible apply GoP.k4); exact rfl; exact rfl; exact rfl; try dsimp only [Option.toList, List.cons_append, List.nil_append])
        | ((with_reducible apply GoP.k5); exact rfl; exact rfl)
        | ((with_reducible apply GoA.sw); all_goals (intro h; (try simp (disch := omega) only [jJ_lit, jJ_add, jJ_mul, iI_long, jJ_toI, l_lt, l_ge, l_gt, l_le, l_eq, l_ne, jJ_inj, k_ule, k_uln, iI_lit, iI_nat, iI_neg, iI_add, iI_sub, iI_mul, k_lt, k_ge, k_gt, k_le, k_eq, k_ne, k_cl, k_in, iI_inj, k_upe, k_upn, k_wue, k_wun, sI_1, sI_2, sI_3, sI_4, sJ_1, sJ_2, sJ_3, sJ_4, sA_1, sA_2, sA_3, sA_4, sB_1, sB_2, sB_3, sB_4, decide_eq_true_eq, decide_eq_false_iff_not, reduceCtorEq, Int.toNat_natCast, Bool.and_true, mc_tf, List.getD_cons_zero, List.getD_cons_succ, Int.reduceToNat, Int.reduceAdd, Int.reduceSub, Int.reduceMul, Int.reduceNeg, Int.reduceLT, Int.reduceLE, Int.reduceEq, not_true_eq_false, not_false_eq_true, decide_true, decide_false, h14] at h); (try (exfalso; omega))))
        | ((with_reducible apply GoA.sw0))
        | ((with_reducible apply GoA.c); all_goals (intro h; (try simp (disch := omega) only [jJ_lit, jJ_add, jJ_mul, iI_long, jJ_toI, l_lt, l_ge, l_gt, l_le, l_eq, l_ne, jJ_inj, k_ule, k_uln, iI_lit, iI_nat, iI_neg, iI_add, iI_sub, iI_mul, k_lt, k_ge, k_gt, k_le, k_eq, k_ne, k_cl, k_in, iI_inj, k_upe, k_upn, k_wue, k_wun, sI_1, sI_2, sI_3, sI_4, sJ_1, sJ_2, sJ_3, sJ_4, sA_1, sA_2, sA_3, sA_4, sB_1, sB_2, sB_3, sB_4, decide_eq_true_eq, decide_eq_false_iff_not, reduceCtorEq, Int.toNat_natCast, Bool.and_true, mc_tf, List.getD_cons_zero, List.getD_cons_succ, Int.reduceToNat, Int.reduceAdd, Int.reduceSub, Int.reduceMul, Int.reduceNeg, Int.reduceLT, Int.reduceLE, Int.reduceEq, not_true_eq_false, not_false_eq_true, decide_true, decide_false, h14] at h); (try (exfalso; omega))))
      refine GoP.ke rfl (hlk) ?_
      dsimp only [Option.toList, List.cons_append, List.nil_append]
      repeat' first
        | ((with_reducible show GoP _ _ (66, _) _); refine Hold.of ?_)
        | ((with_reducible apply GoP.k0); exact rfl; exact rfl)
        | ((with_reducible apply GoP.k1); exact rfl; exact rfl; all_goals (intro h; (try simp (disch := omega) only [jJ_lit, jJ_add, jJ_mul, iI_long, jJ_toI, l_lt, l_ge, l_gt, l_le, l_eq, l_ne, jJ_inj, k_ule, k_uln, iI_lit, iI_nat, iI_neg, iI_add, iI_sub, iI_mul, k_lt, k_ge, k_gt, k_le, k_eq, k_ne, k_cl, k_in, iI_inj, k_upe, k_upn, k_wue, k_wun, sI_1, sI_2, sI_3, sI_4, sJ_1, sJ_2, sJ_3, sJ_4, sA_1, sA_2, sA_3, sA_4, sB_1, sB_2, sB_3, sB_4, decide_eq_true_eq, decide_eq_false_iff_not, reduceCtorEq, Int.toNat_natCast, Bool.and_true, mc_tf, List.getD_cons_zero, List.getD_cons_succ, Int.reduceToNat, Int.reduceAdd, Int.reduceSub, Int.reduceMul, Int.reduceNeg, Int.reduceLT, Int.reduceLE, Int.reduceEq, not_true_eq_false, not_false_eq_true, decide_true, decide_false] at h); (try (exfalso; omega))))
        | ((with_reducible apply GoP.k2); exact rfl; exact rfl; focus ((simp (disch := omega) only [jJ_lit, jJ_add, jJ_mul, iI_long, jJ_toI, l_lt, l_ge, l_gt, l_le, l_eq, l_ne, jJ_inj, k_ule, k_uln, iI_lit, iI_nat, iI_neg, iI_add, iI_sub, iI_mul, k_lt, k_ge, k_gt, k_le, k_eq, k_ne, k_cl, k_in, iI_inj, k_upe, k_upn, k_wue, k_wun, sI_1, sI_2, sI_3, sI_4, sJ_1, sJ_2, sJ_3, sJ_4, sA_1, sA_2, sA_3, sA_4, sB_1, sB_2, sB_3, sB_4, decide_eq_true_eq, decide_eq_false_iff_not, reduceCtorEq, Int.toNat_natCast, Bool.and_true, mc_tf, List.getD_cons_zero, List.getD_cons_succ, Int.reduceToNat, Int.reduceAdd, Int.reduceSub, Int.reduceMul, Int.reduceNeg, Int.reduceLT, Int.reduceLE, Int.reduceEq, not_true_eq_false, not_false_eq_true, decide_true, decide_false]) <;> omega))
        | ((with_reducible apply GoP.k4); exact rfl; exact rfl; exact rfl; try dsimp only [Option.toList, List.cons_append, List.nil_append])
        | ((with_reducible apply GoP.k5); exact rfl; exact rfl)
        | ((with_reducible apply GoA.sw); all_goals (intro h; (try simp (disch := omega) only [jJ_lit, jJ_add, jJ_mul, iI_long, jJ_toI, l_lt, l_ge, l_gt, l_le, l_eq, l_ne, jJ_inj, k_ule, k_uln, iI_lit, iI_nat, iI_neg, iI_add, iI_sub, iI_mul, k_lt, k_ge, k_gt, k_le, k_eq, k_ne, k_cl, k_in, iI_inj, k_upe, k_upn, k_wue, k_wun, sI_1, sI_2, sI_3, sI_4, sJ_1, sJ_2, sJ_3, sJ_4, sA_1, sA_2, sA_3, sA_4, sB_1, sB_2, sB_3, sB_4, decide_eq_true_eq, decide_eq_false_iff_not, reduceCtorEq, Int.toNat_natCast, Bool.and_true, mc_tf, List.getD_cons_zero, List.getD_cons_succ, Int.reduceToNat, Int.reduceAdd, Int.reduceSub, Int.reduceMul, Int.reduceNeg, Int.reduceLT, Int.reduceLE, Int.reduceEq, not_true_eq_false, not_false_eq_true, decide_true, decide_false] at h); (try (exfalso; omega))))
        | ((with_reducible apply GoA.sw0))
        | ((with_reducible apply GoA.c); all_goals (intro h; (try simp (disch := omega) only [jJ_lit, jJ_add, jJ_mul, iI_long, jJ_toI, l_lt, l_ge, l_gt, l_le, l_eq, l_ne, jJ_inj, k_ule, k_uln, iI_lit, iI_nat, iI_neg, iI_add, iI_sub, iI_mul, k_lt, k_ge, k_gt, k_le, k_eq, k_ne, k_cl, k_in, iI_inj, k_upe, k_upn, k_wue, k_wun, sI_1, sI_2, sI_3, sI_4, sJ_1, sJ_2, sJ_3, sJ_4, sA_1, sA_2, sA_3, sA_4, sB_1, sB_2, sB_3, sB_4, decide_eq_true_eq, decide_eq_false_iff_not, reduceCtorEq, Int.toNat_natCast, Bool.and_true, mc_tf, List.getD_cons_zero, List.getD_cons_succ, Int.reduceToNat, Int.reduceAdd, Int.reduceSub, Int.reduceMul, Int.reduceNeg, Int.reduceLT, Int.reduceLE, Int.reduceEq, not_true_eq_false, not_false_eq_true, decide_true, decide_false] at h); (try (exfalso; omega))))
      exact fin μ1 _ _ _ hI1.2.2.2.1 (by omega) hCb hfb (fun μ3 d1 d0 d2 => ⟨μ3, rfl, Or.inl ⟨rfl, hI1.fr d0 d2 (by decide), d1⟩, hFb.tr (d2.up (by decide))⟩)
  · rw [lnS_f g1]
    obtain ⟨hT1, h14, l, h16, hl2⟩ := id hX1
    have hpl := hT1.2.2.2
    repeat' first
      | ((with_reducible show GoP _ _ (66, _) _); refine Hold.of ?_)
      | ((with_reducible apply GoP.k0); exact rfl; exact rfl)
      | ((with_reducible apply GoP.k1); exact rfl; exact rfl; all_goals (intro h; (try simp (disch := omega) only [jJ_lit, jJ_add, jJ_mul, iI_long, jJ_toI, l_lt, l_ge, l_gt, l_le, l_eq, l_ne, jJ_inj, k_ule, k_uln, iI_lit, iI_nat, iI_neg, iI_add, iI_sub, iI_mul, k_lt, k_ge, k_gt, k_le, k_eq, k_ne, k_cl, k_in, iI_inj, k_upe, k_upn, k_wue, k_wun, sI_1, sI_2, sI_3, sI_4, sJ_1, sJ_2, sJ_3, sJ_4, sA_1, sA_2, sA_3, sA_4, sB_1, sB_2, sB_3, sB_4, decide_eq_true_eq, decide_eq_false_iff_not, reduceCtorEq, Int.toNat_natCast, Bool.and_true, mc_tf, List.getD_cons_zero, List.getD_cons_succ, Int.reduceToNat, Int.reduceAdd, Int.reduceSub, Int.reduceMul, Int.reduceNeg, Int.reduceLT, Int.reduceLE, Int.reduceEq, not_true_eq_false, not_false_eq_true, decide_true, decide_false, h14] at h); (try (exfalso; omega))))
      | ((with_reducible apply GoP.k2); exact rfl; exact rfl; focus ((simp (disch := omega) only [jJ_lit, jJ_add, jJ_mul, iI_long, jJ_toI, l_lt, l_ge, l_gt, l_le, l_eq, l_ne, jJ_inj, k_ule, k_uln, iI_lit, iI_nat, iI_neg, iI_add, iI_sub, iI_mul, k_lt, k_ge, k_gt, k_le, k_eq, k_ne, k_cl, k_in, iI_inj, k_upe, k_upn, k_wue, k_wun, sI_1, sI_2, sI_3, sI_4, sJ_1, sJ_2, sJ_3, sJ_4, sA_1, sA_2, sA_3, sA_4, sB_1, sB_2, sB_3, sB_4, decide_eq_true_eq, decide_eq_false_iff_not, reduceCtorEq, Int.toNat_natCast, Bool.and_true, mc_tf, List.getD_cons_zero, List.getD_cons_succ, Int.reduceToNat, Int.reduceAdd, Int.reduceSub, Int.reduceMul, Int.reduceNeg, Int.reduceLT, Int.reduceLE, Int.reduceEq, not_true_eq_false, not_false_eq_true, decide_true, decide_false, h14]) <;> omega))
      | ((with_reducible apply GoP.k4); exact rfl; exact rfl; exact rfl; try dsimp only [Option.toList, List.cons_append, List.nil_append])
      | ((with_reducible apply GoP.k5); exact rfl; exact rfl)
      | ((with_reducible apply GoA.sw); all_goals (intro h; (try simp (disch := omega) only [jJ_lit, jJ_add, jJ_mul, iI_long, jJ_toI, l_lt, l_ge, l_gt, l_le, l_eq, l_ne, jJ_inj, k_ule, k_uln, iI_lit, iI_nat, iI_neg, iI_add, iI_sub, iI_mul, k_lt, k_ge, k_gt, k_le, k_eq, k_ne, k_cl, k_in, iI_inj, k_upe, k_upn, k_wue, k_wun, sI_1, sI_2, sI_3, sI_4, sJ_1, sJ_2, sJ_3, sJ_4, sA_1, sA_2, sA_3, sA_4, sB_1, sB_2, sB_3, sB_4, decide_eq_true_eq, decide_eq_false_iff_not, reduceCtorEq, Int.toNat_natCast, Bool.and_true, mc_tf, List.getD_cons_zero, List.getD_cons_succ, Int.reduceToNat, Int.reduceAdd, Int.reduceSub, Int.reduceMul, Int.reduceNeg, Int.reduceLT, Int.reduceLE, Int.reduceEq, not_true_eq_false, not_false_eq_true, decide_true, decide_false, h14] at h); (try (exfalso; omega))))
      | ((with_reducible apply GoA.sw0))
      | ((with_reducible apply GoA.c); all_goals (intro h; (try simp (disch := omega) only [jJ_lit, jJ_add, jJ_mul, iI_long, jJ_toI, l_lt, l_ge, l_gt, l_le, l_eq, l_ne, jJ_inj, k_ule, k_uln, iI_lit, iI_nat, iI_neg, iI_add, iI_sub, iI_mul, k_lt, k_ge, k_gt, k_le, k_eq, k_ne, k_cl, k_in, iI_inj, k_upe, k_upn, k_wue, k_wun, sI_1, sI_2, sI_3, sI_4, sJ_1, sJ_2, sJ_3, sJ_4, sA_1, sA_2, sA_3, sA_4, sB_1, sB_2, sB_3, sB_4, decide_eq_true_eq, decide_eq_false_iff_not, reduceCtorEq, Int.toNat_natCast, Bool.and_true, mc_tf, List.getD_cons_zero, List.getD_cons_succ, Int.reduceToNat, Int.reduceAdd, Int.reduceSub, Int.reduceMul, Int.reduceNeg, Int.reduceLT, Int.reduceLE, Int.reduceEq, not_true_eq_false, not_false_eq_true, decide_true, decide_false, h14] at h); (try (exfalso; omega))))
    exact fin μ1 l _ _ h16 (by omega) hCb hfb (fun μ3 d1 d0 d2 => ⟨μ3, rfl, Or.inr ⟨rfl, hX1.fr d0 d2 (by decide)⟩, hFb.tr (d2.up (by decide))⟩)
end
