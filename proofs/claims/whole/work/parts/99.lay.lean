/-! How a host lays the dishes. -/
def lyS (f : List Nat → Nat) (st : Option (Nat × List Nat)) (o : List Nat) : Option (Nat × List Nat) := match st with
  | none => some (f o, o)
  | some (c, b) => if f o < c then some (f o, o) else some (c, b)
def ly (f : List Nat → Nat) (os : List (List Nat)) (st : Option (Nat × List Nat)) : Option (Nat × List Nat) := os.foldl (lyS f) st
theorem ly_cons (f : List Nat → Nat) (o : List Nat) (os : List (List Nat)) (st : Option (Nat × List Nat)) : ly f (o :: os) st = ly f os (lyS f st o) := rfl
theorem ly_app (f : List Nat → Nat) (os os' : List (List Nat)) (st : Option (Nat × List Nat)) : ly f (os ++ os') st = ly f os' (ly f os st) := List.foldl_append
/-- what is told of it -/
def vLay (c : Nat) (b : List Nat) (z : Int) : Int := if z = -1 then (c : Int) else (b.getD z.toNat 0 : Int)
def lyX (n : Nat) (st : Option (Nat × List Nat)) (z : Int) (σ : wS) : Prop := (st = none ∧ z = 2147483647) ∨ ∃ (c : Nat) (b : List Nat), st = some (c, b) ∧ z = (c : Int) ∧ c ≤ 80190 ∧ b.length = n ∧ HO σ 64 b
def lyM (n : Nat) (st : Option (Nat × List Nat)) (μ : wS) : Prop := (st = none ∧ μ.1 40 = iI (-1)) ∨ ∃ (c : Nat) (b : List Nat), st = some (c, b) ∧ μ.1 40 = iI (c : Int) ∧ c ≤ 80190 ∧ b.length = n ∧ ∀ i, i < n → μ.2.2.1 23 i = iI (b.getD i 0 : Int)
theorem gd_l {l : List Nat} {d i : Nat} (h : i < l.length) : (l ++ [d]).getD i 0 = l.getD i 0 := by simp [List.getD, List.getElem?_append_left h]
theorem gd_r {l : List Nat} {d : Nat} : (l ++ [d]).getD l.length 0 = d := by simp [List.getD]
theorem gd_m {l : List Nat} {n i : Nat} (h : ∀ d, d ∈ l → d < n) (hi : i < l.length) : l.getD i 0 < n := by
  have e : l.getD i 0 = l[i] := by simp [List.getD, List.getElem?_eq_getElem hi]
  rw [e]
  exact h _ (List.getElem_mem hi)
theorem HO.fr {σ σ' : wS} {r : Nat} {l : List Nat} {I J A B : List Nat} (h : HO σ r l) (hF : Fr I J A B σ σ') (hr : ¬ r ∈ A) : HO σ' r l := fun i hi => by
  rw [hF.2.2.1 r hr]
  exact h i hi
section
variable {w : Bool} {T : tT} {M : kM} {σ μ : wS}
set_option maxRecDepth 100000 in
set_option maxHeartbeats 8000000 in
theorem lx_layS {Lv : Int → Int → Int → Int → Int → Int → Bool} {D G way n tr : Nat} {z ls : Int} {M0 : kM} {σ0 : wS} {o : List Nat} {st : Option (Nat × List Nat)} {cc nn : Nat} {x6 : Option Value} {Q : mc_R → Prop} (hD : 28 ≤ D) (hw : way ≤ 3) (hG10 : G ≤ 10) (hT : TOk T) (hn : tN T = n) (hn5 : n ≤ 5) (hV : pV Lv w σ0) (hX0 : TX T σ0) (htr : tr < 120) (hol : o.length = n) (hod : ∀ d, d ∈ o → d < n) (hK : KR M σ) (hO : HO σ 63 o) (hL : lyX n st ls σ) (hcc : cc + gM M0 = gM M) (hnn : nn + 2196 * 2 ^ gM M0 = 2196 * 2 ^ gM M) (hF : Fr scI scJ scA scB σ0 σ)
    (hQ : ∀ (M2 : kM) (σ2 : wS) (ls2 : Int) (cc2 nn2 : Nat) (x6 : Option Value), KR M2 σ2 → HO σ2 63 o → lyX n (lyS (fun o => cG Lv way G (pmT T o)) st o) ls2 σ2 → cc2 + gM M0 = gM M2 → nn2 + 2196 * 2 ^ gM M0 = 2196 * 2 ^ gM M2 → Fr scI scJ scA scB σ0 σ2 → GoP D tb_X10_lay (151, [some (.ref 0), some (.int (iI ((10 * G + way : Nat) : Int))), some (.int (iI z)), some (.int (iI ls2)), some (.int 1), some (.int (iI (tr : Int))), x6], [.int (iI (n : Int)), .ref 63], xX w M2 σ2, cc2, nn2) Q) : GoP D tb_X10_lay (76, [some (.ref 0), some (.int (iI ((10 * G + way : Nat) : Int))), some (.int (iI z)), some (.int (iI ls)), some (.int 1), some (.int (iI (tr : Int))), x6], [], xX w M σ, cc, nn) Q := by
  have hX : TX T σ := hX0.fr hF (by decide)
  have hgd : ∀ i, i < tN T → o.getD i 0 < tN T := fun i hi => by
    rw [hn]
    exact gd_m hod (by omega)
  have hTp := pmT_ok hT hgd
  have hls : 0 ≤ ls ∧ ls < 2147483648 := by
    rcases hL with ⟨-, h⟩ | ⟨c, b, -, h, h2, -⟩ <;> omega
  have hcl := cG_le Lv way G _ hTp
  have hin := ct_inOrder (w := w) (M := M) (D := D) (o := o) (by omega) hT hX hgd (fun j hj => hO j (by omega))
  refine GoP.st1 rfl ?_
  repeat' first
    | ((with_reducible apply GoP.k0); exact rfl; exact rfl)
    | ((with_reducible apply GoP.k1); exact rfl; exact rfl; all_goals (intro h; (try simp (disch := omega) only [jJ_lit, jJ_add, jJ_mul, iI_long, jJ_toI, l_lt, l_ge, l_gt, l_le, l_eq, l_ne, jJ_inj, k_ule, k_uln, iI_lit, iI_nat, iI_neg, iI_add, iI_sub, iI_mul, k_lt, k_ge, k_gt, k_le, k_eq, k_ne, k_cl, k_in, iI_inj, k_upe, k_upn, k_wue, k_wun, sI_1, sI_2, sI_3, sI_4, sJ_1, sJ_2, sJ_3, sJ_4, sA_1, sA_2, sA_3, sA_4, sB_1, sB_2, sB_3, sB_4, decide_eq_true_eq, decide_eq_false_iff_not, reduceCtorEq, Int.toNat_natCast, Bool.and_true, mc_tf, List.getD_cons_zero, List.getD_cons_succ, Int.reduceToNat, Int.reduceAdd, Int.reduceSub, Int.reduceMul, Int.reduceNeg, Int.reduceLT, Int.reduceLE, Int.reduceEq, not_true_eq_false, not_false_eq_true, decide_true, decide_false] at h); (try (exfalso; omega))))
    | ((with_reducible apply GoP.k2); exact rfl; exact rfl; focus ((simp (disch := omega) only [jJ_lit, jJ_add, jJ_mul, iI_long, jJ_toI, l_lt, l_ge, l_gt, l_le, l_eq, l_ne, jJ_inj, k_ule, k_uln, iI_lit, iI_nat, iI_neg, iI_add, iI_sub, iI_mul, k_lt, k_ge, k_gt, k_le, k_eq, k_ne, k_cl, k_in, iI_inj, k_upe, k_upn, k_wue, k_wun, sI_1, sI_2, sI_3, sI_4, sJ_1, sJ_2, sJ_3, sJ_4, sA_1, sA_2, sA_3, sA_4, sB_1, sB_2, sB_3, sB_4, decide_eq_true_eq, decide_eq_false_iff_not, reduceCtorEq, Int.toNat_natCast, Bool.and_true, mc_tf, List.getD_cons_zero, List.getD_cons_succ, Int.reduceToNat, Int.reduceAdd, Int.reduceSub, Int.reduceMul, Int.reduceNeg, Int.reduceLT, Int.reduceLE, Int.reduceEq, not_true_eq_false, not_false_eq_true, decide_true, decide_false]) <;> omega))
    | ((with_reducible apply GoP.k4); exact rfl; exact rfl; exact rfl; try dsimp only [Option.toList, List.cons_append, List.nil_append])
    | ((with_reducible apply GoP.k5); exact rfl; exact rfl)
    | ((with_reducible apply GoA.sw); all_goals (intro h; (try simp (disch := omega) only [jJ_lit, jJ_add, jJ_mul, iI_long, jJ_toI, l_lt, l_ge, l_gt, l_le, l_eq, l_ne, jJ_inj, k_ule, k_uln, iI_lit, iI_nat, iI_neg, iI_add, iI_sub, iI_mul, k_lt, k_ge, k_gt, k_le, k_eq, k_ne, k_cl, k_in, iI_inj, k_upe, k_upn, k_wue, k_wun, sI_1, sI_2, sI_3, sI_4, sJ_1, sJ_2, sJ_3, sJ_4, sA_1, sA_2, sA_3, sA_4, sB_1, sB_2, sB_3, sB_4, decide_eq_true_eq, decide_eq_false_iff_not, reduceCtorEq, Int.toNat_natCast, Bool.and_true, mc_tf, List.getD_cons_zero, List.getD_cons_succ, Int.reduceToNat, Int.reduceAdd, Int.reduceSub, Int.reduceMul, Int.reduceNeg, Int.reduceLT, Int.reduceLE, Int.reduceEq, not_true_eq_false, not_false_eq_true, decide_true, decide_false] at h); (try (exfalso; omega))))
    | ((with_reducible apply GoA.sw0))
    | ((with_reducible apply GoA.c); all_goals (intro h; (try simp (disch := omega) only [jJ_lit, jJ_add, jJ_mul, iI_long, jJ_toI, l_lt, l_ge, l_gt, l_le, l_eq, l_ne, jJ_inj, k_ule, k_uln, iI_lit, iI_nat, iI_neg, iI_add, iI_sub, iI_mul, k_lt, k_ge, k_gt, k_le, k_eq, k_ne, k_cl, k_in, iI_inj, k_upe, k_upn, k_wue, k_wun, sI_1, sI_2, sI_3, sI_4, sJ_1, sJ_2, sJ_3, sJ_4, sA_1, sA_2, sA_3, sA_4, sB_1, sB_2, sB_3, sB_4, decide_eq_true_eq, decide_eq_false_iff_not, reduceCtorEq, Int.toNat_natCast, Bool.and_true, mc_tf, List.getD_cons_zero, List.getD_cons_succ, Int.reduceToNat, Int.reduceAdd, Int.reduceSub, Int.reduceMul, Int.reduceNeg, Int.reduceLT, Int.reduceLE, Int.reduceEq, not_true_eq_false, not_false_eq_true, decide_true, decide_false] at h); (try (exfalso; omega))))
  refine GoP.kc rfl (hin) ?_
  rintro R ⟨σ1, rfl, hL1, hF1⟩
  dsimp only [Option.toList, List.cons_append, List.nil_append]
  repeat' first
    | ((with_reducible apply GoP.k0); exact rfl; exact rfl)
    | ((with_reducible apply GoP.k1); exact rfl; exact rfl; all_goals (intro h; (try simp (disch := omega) only [jJ_lit, jJ_add, jJ_mul, iI_long, jJ_toI, l_lt, l_ge, l_gt, l_le, l_eq, l_ne, jJ_inj, k_ule, k_uln, iI_lit, iI_nat, iI_neg, iI_add, iI_sub, iI_mul, k_lt, k_ge, k_gt, k_le, k_eq, k_ne, k_cl, k_in, iI_inj, k_upe, k_upn, k_wue, k_wun, sI_1, sI_2, sI_3, sI_4, sJ_1, sJ_2, sJ_3, sJ_4, sA_1, sA_2, sA_3, sA_4, sB_1, sB_2, sB_3, sB_4, decide_eq_true_eq, decide_eq_false_iff_not, reduceCtorEq, Int.toNat_natCast, Bool.and_true, mc_tf, List.getD_cons_zero, List.getD_cons_succ, Int.reduceToNat, Int.reduceAdd, Int.reduceSub, Int.reduceMul, Int.reduceNeg, Int.reduceLT, Int.reduceLE, Int.reduceEq, not_true_eq_false, not_false_eq_true, decide_true, decide_false] at h); (try (exfalso; omega))))
    | ((with_reducible apply GoP.k2); exact rfl; exact rfl; focus ((simp (disch := omega) only [jJ_lit, jJ_add, jJ_mul, iI_long, jJ_toI, l_lt, l_ge, l_gt, l_le, l_eq, l_ne, jJ_inj, k_ule, k_uln, iI_lit, iI_nat, iI_neg, iI_add, iI_sub, iI_mul, k_lt, k_ge, k_gt, k_le, k_eq, k_ne, k_cl, k_in, iI_inj, k_upe, k_upn, k_wue, k_wun, sI_1, sI_2, sI_3, sI_4, sJ_1, sJ_2, sJ_3, sJ_4, sA_1, sA_2, sA_3, sA_4, sB_1, sB_2, sB_3, sB_4, decide_eq_true_eq, decide_eq_false_iff_not, reduceCtorEq, Int.toNat_natCast, Bool.and_true, mc_tf, List.getD_cons_zero, List.getD_cons_succ, Int.reduceToNat, Int.reduceAdd, Int.reduceSub, Int.reduceMul, Int.reduceNeg, Int.reduceLT, Int.reduceLE, Int.reduceEq, not_true_eq_false, not_false_eq_true, decide_true, decide_false]) <;> omega))
    | ((with_reducible apply GoP.k4); exact rfl; exact rfl; exact rfl; try dsimp only [Option.toList, List.cons_append, List.nil_append])
    | ((with_reducible apply GoP.k5); exact rfl; exact rfl)
    | ((with_reducible apply GoA.sw); all_goals (intro h; (try simp (disch := omega) only [jJ_lit, jJ_add, jJ_mul, iI_long, jJ_toI, l_lt, l_ge, l_gt, l_le, l_eq, l_ne, jJ_inj, k_ule, k_uln, iI_lit, iI_nat, iI_neg, iI_add, iI_sub, iI_mul, k_lt, k_ge, k_gt, k_le, k_eq, k_ne, k_cl, k_in, iI_inj, k_upe, k_upn, k_wue, k_wun, sI_1, sI_2, sI_3, sI_4, sJ_1, sJ_2, sJ_3, sJ_4, sA_1, sA_2, sA_3, sA_4, sB_1, sB_2, sB_3, sB_4, decide_eq_true_eq, decide_eq_false_iff_not, reduceCtorEq, Int.toNat_natCast, Bool.and_true, mc_tf, List.getD_cons_zero, List.getD_cons_succ, Int.reduceToNat, Int.reduceAdd, Int.reduceSub, Int.reduceMul, Int.reduceNeg, Int.reduceLT, Int.reduceLE, Int.reduceEq, not_true_eq_false, not_false_eq_true, decide_true, decide_false] at h); (try (exfalso; omega))))
    | ((with_reducible apply GoA.sw0))
    | ((with_reducible apply GoA.c); all_goals (intro h; (try simp (disch := omega) only [jJ_lit, jJ_add, jJ_mul, iI_long, jJ_toI, l_lt, l_ge, l_gt, l_le, l_eq, l_ne, jJ_inj, k_ule, k_uln, iI_lit, iI_nat, iI_neg, iI_add, iI_sub, iI_mul, k_lt, k_ge, k_gt, k_le, k_eq, k_ne, k_cl, k_in, iI_inj, k_upe, k_upn, k_wue, k_wun, sI_1, sI_2, sI_3, sI_4, sJ_1, sJ_2, sJ_3, sJ_4, sA_1, sA_2, sA_3, sA_4, sB_1, sB_2, sB_3, sB_4, decide_eq_true_eq, decide_eq_false_iff_not, reduceCtorEq, Int.toNat_natCast, Bool.and_true, mc_tf, List.getD_cons_zero, List.getD_cons_succ, Int.reduceToNat, Int.reduceAdd, Int.reduceSub, Int.reduceMul, Int.reduceNeg, Int.reduceLT, Int.reduceLE, Int.reduceEq, not_true_eq_false, not_false_eq_true, decide_true, decide_false] at h); (try (exfalso; omega))))
  have hF2 : Fr scI scJ scA scB σ0 σ1 := hF.tr (hF1.up (by decide))
  have hct := ct_costF (w := w) (M := M) (Lv := Lv) (D := D) (way := way) (G := G) (lim := ls) (by omega) hw hG10 hls (hV.fr hF2) hTp (hK.mv hF1 (by decide)) hL1
  refine GoP.kc rfl (hct) ?_
  rintro R ⟨c, M2, σ2, c2, n2, rfl, hc2, hn2, hK2, hF3, hle, hor⟩
  dsimp only [Option.toList, List.cons_append, List.nil_append]
  have hF4 : Fr scI scJ scA scB σ0 σ2 := hF2.tr (hF3.up (by decide))
  have hO2 : HO σ2 63 o := (hO.fr hF1 (by decide)).fr hF3 (by decide)
  have h64 : σ2.2.2.1 64 = σ.2.2.1 64 := (hF3.2.2.1 64 (by decide)).trans (hF1.2.2.1 64 (by decide))
  have h102 : σ2.1 102 = iI (n : Int) := by
    rw [(hX0.fr hF4 (by decide)).1, hn]
  by_cases hlt : (cG Lv way G (pmT T o) : Int) < ls
  · obtain rfl : c = cG Lv way G (pmT T o) := by
      rcases hor with h | h
      · exact h
      · omega
    have hst : lyS (fun o => cG Lv way G (pmT T o)) st o = some (cG Lv way G (pmT T o), o) := by
      rcases hL with ⟨e, h⟩ | ⟨c, b, e, h, -⟩
      · rw [e]
        rfl
      · rw [e]
        show (if cG Lv way G (pmT T o) < c then some (cG Lv way G (pmT T o), o) else some (c, b)) = _
        rw [if_pos (by omega)]
    have hc : (decide (¬ (0 : Int32) < 0 ∧ ¬ (0 : Int32) < 0 ∧ ¬ σ2.1 102 < 0 ∧ (0 : Int32).toNatClampNeg + (σ2.1 102).toNatClampNeg ≤ 9 ∧ (0 : Int32).toNatClampNeg + (σ2.1 102).toNatClampNeg ≤ 9) && Nat.ble (mc_w []) 8) = true := by
      rw [h102, show (0 : Int32).toNatClampNeg = 0 by decide, k_cl (by omega), show Nat.ble (mc_w []) 8 = true by decide, Bool.and_true]
      refine decide_eq_true ⟨by decide, by decide, ?_, by omega, by omega⟩
      rw [iI_lit, iI_ltp (by omega)]
      omega
    have en : (σ2.1 102).toNatClampNeg = n := by
      rw [h102, k_cl (by omega)]
      omega
    obtain ⟨σ3, hσ3⟩ : ∃ σ3, σ3 = sA σ2 64 (va_cpy (σ2.2.2.1 63) (σ2.2.2.1 64) (0 : Int32).toNatClampNeg (0 : Int32).toNatClampNeg (σ2.1 102).toNatClampNeg) := ⟨_, rfl⟩
    have hF5 : Fr [] [] [64] [] σ2 σ3 := by
      rw [hσ3]
      exact Fr.sA (by decide)
    have hq := hQ M2 σ3 (cG Lv way G (pmT T o) : Int) (cc + c2) (nn + n2) (some (.int (iI (cG Lv way G (pmT T o) : Int)))) (hK2.mv hF5 (by decide)) (hO2.fr hF5 (by decide)) (Or.inr ⟨_, o, hst, rfl, by omega, hol, fun i hi => ?_⟩) (by omega) (by omega) (hF4.tr (hF5.up (by decide)))
    · rw [hσ3] at hq
      rw [← h102] at hq
      repeat' first
        | ((with_reducible apply GoP.k2); exact rfl; exact rfl; exact hc)
        | ((with_reducible show GoP _ _ (151, _) _); refine Hold.of ?_)
        | ((with_reducible apply GoP.k0); exact rfl; exact rfl)
        | ((with_reducible apply GoP.k1); exact rfl; exact rfl; all_goals (intro h; (try simp (disch := omega) only [jJ_lit, jJ_add, jJ_mul, iI_long, jJ_toI, l_lt, l_ge, l_gt, l_le, l_eq, l_ne, jJ_inj, k_ule, k_uln, iI_lit, iI_nat, iI_neg, iI_add, iI_sub, iI_mul, k_lt, k_ge, k_gt, k_le, k_eq, k_ne, k_cl, k_in, iI_inj, k_upe, k_upn, k_wue, k_wun, sI_1, sI_2, sI_3, sI_4, sJ_1, sJ_2, sJ_3, sJ_4, sA_1, sA_2, sA_3, sA_4, sB_1, sB_2, sB_3, sB_4, decide_eq_true_eq, decide_eq_false_iff_not, reduceCtorEq, Int.toNat_natCast, Bool.and_true, mc_tf, List.getD_cons_zero, List.getD_cons_succ, Int.reduceToNat, Int.reduceAdd, Int.reduceSub, Int.reduceMul, Int.reduceNeg, Int.reduceLT, Int.reduceLE, Int.reduceEq, not_true_eq_false, not_false_eq_true, decide_true, decide_false] at h); (try (exfalso; omega))))
        | ((with_reducible apply GoP.k2); exact rfl; exact rfl; focus ((simp (disch := omega) only [jJ_lit, jJ_add, jJ_mul, iI_long, jJ_toI, l_lt, l_ge, l_gt, l_le, l_eq, l_ne, jJ_inj, k_ule, k_uln, iI_lit, iI_nat, iI_neg, iI_add, iI_sub, iI_mul, k_lt, k_ge, k_gt, k_le, k_eq, k_ne, k_cl, k_in, iI_inj, k_upe, k_upn, k_wue, k_wun, sI_1, sI_2, sI_3, sI_4, sJ_1, sJ_2, sJ_3, sJ_4, sA_1, sA_2, sA_3, sA_4, sB_1, sB_2, sB_3, sB_4, decide_eq_true_eq, decide_eq_false_iff_not, reduceCtorEq, Int.toNat_natCast, Bool.and_true, mc_tf, List.getD_cons_zero, List.getD_cons_succ, Int.reduceToNat, Int.reduceAdd, Int.reduceSub, Int.reduceMul, Int.reduceNeg, Int.reduceLT, Int.reduceLE, Int.reduceEq, not_true_eq_false, not_false_eq_true, decide_true, decide_false]) <;> omega))
        | ((with_reducible apply GoP.k4); exact rfl; exact rfl; exact rfl; try dsimp only [Option.toList, List.cons_append, List.nil_append])
        | ((with_reducible apply GoP.k5); exact rfl; exact rfl)
        | ((with_reducible apply GoA.sw); all_goals (intro h; (try simp (disch := omega) only [jJ_lit, jJ_add, jJ_mul, iI_long, jJ_toI, l_lt, l_ge, l_gt, l_le, l_eq, l_ne, jJ_inj, k_ule, k_uln, iI_lit, iI_nat, iI_neg, iI_add, iI_sub, iI_mul, k_lt, k_ge, k_gt, k_le, k_eq, k_ne, k_cl, k_in, iI_inj, k_upe, k_upn, k_wue, k_wun, sI_1, sI_2, sI_3, sI_4, sJ_1, sJ_2, sJ_3, sJ_4, sA_1, sA_2, sA_3, sA_4, sB_1, sB_2, sB_3, sB_4, decide_eq_true_eq, decide_eq_false_iff_not, reduceCtorEq, Int.toNat_natCast, Bool.and_true, mc_tf, List.getD_cons_zero, List.getD_cons_succ, Int.reduceToNat, Int.reduceAdd, Int.reduceSub, Int.reduceMul, Int.reduceNeg, Int.reduceLT, Int.reduceLE, Int.reduceEq, not_true_eq_false, not_false_eq_true, decide_true, decide_false] at h); (try (exfalso; omega))))
        | ((with_reducible apply GoA.sw0))
        | ((with_reducible apply GoA.c); all_goals (intro h; (try simp (disch := omega) only [jJ_lit, jJ_add, jJ_mul, iI_long, jJ_toI, l_lt, l_ge, l_gt, l_le, l_eq, l_ne, jJ_inj, k_ule, k_uln, iI_lit, iI_nat, iI_neg, iI_add, iI_sub, iI_mul, k_lt, k_ge, k_gt, k_le, k_eq, k_ne, k_cl, k_in, iI_inj, k_upe, k_upn, k_wue, k_wun, sI_1, sI_2, sI_3, sI_4, sJ_1, sJ_2, sJ_3, sJ_4, sA_1, sA_2, sA_3, sA_4, sB_1, sB_2, sB_3, sB_4, decide_eq_true_eq, decide_eq_false_iff_not, reduceCtorEq, Int.toNat_natCast, Bool.and_true, mc_tf, List.getD_cons_zero, List.getD_cons_succ, Int.reduceToNat, Int.reduceAdd, Int.reduceSub, Int.reduceMul, Int.reduceNeg, Int.reduceLT, Int.reduceLE, Int.reduceEq, not_true_eq_false, not_false_eq_true, decide_true, decide_false] at h); (try (exfalso; omega))))
      exact hq
    · rw [hσ3]
      show va_cpy (σ2.2.2.1 63) (σ2.2.2.1 64) (0 : Int32).toNatClampNeg (0 : Int32).toNatClampNeg (σ2.1 102).toNatClampNeg i = _
      rw [show (0 : Int32).toNatClampNeg = 0 by decide, en, cpy_at (by omega)]
      exact hO2 i hi
  · have hnl : ¬ (c : Int) < ls := by
      rcases hor with h | h <;> omega
    have hc0 : c ≤ 80190 := by omega
    have hst : lyX n (lyS (fun o => cG Lv way G (pmT T o)) st o) ls σ2 := by
      rcases hL with ⟨e, h⟩ | ⟨c', b, e, h, h2, h3, h4⟩
      · omega
      · rw [e]
        refine Or.inr ⟨c', b, ?_, h, h2, h3, fun i hi => ?_⟩
        · show (if cG Lv way G (pmT T o) < c' then some (cG Lv way G (pmT T o), o) else some (c', b)) = _
          rw [if_neg (by omega)]
        rw [h64]
        exact h4 i hi
    have hq := hQ M2 σ2 ls (cc + c2) (nn + n2) (some (.int (iI (c : Int)))) hK2 hO2 hst (by omega) (by omega) hF4
    rw [← h102] at hq
    repeat' first
      | ((with_reducible show GoP _ _ (151, _) _); refine Hold.of ?_)
      | ((with_reducible apply GoP.k0); exact rfl; exact rfl)
      | ((with_reducible apply GoP.k1); exact rfl; exact rfl; all_goals (intro h; (try simp (disch := omega) only [jJ_lit, jJ_add, jJ_mul, iI_long, jJ_toI, l_lt, l_ge, l_gt, l_le, l_eq, l_ne, jJ_inj, k_ule, k_uln, iI_lit, iI_nat, iI_neg, iI_add, iI_sub, iI_mul, k_lt, k_ge, k_gt, k_le, k_eq, k_ne, k_cl, k_in, iI_inj, k_upe, k_upn, k_wue, k_wun, sI_1, sI_2, sI_3, sI_4, sJ_1, sJ_2, sJ_3, sJ_4, sA_1, sA_2, sA_3, sA_4, sB_1, sB_2, sB_3, sB_4, decide_eq_true_eq, decide_eq_false_iff_not, reduceCtorEq, Int.toNat_natCast, Bool.and_true, mc_tf, List.getD_cons_zero, List.getD_cons_succ, Int.reduceToNat, Int.reduceAdd, Int.reduceSub, Int.reduceMul, Int.reduceNeg, Int.reduceLT, Int.reduceLE, Int.reduceEq, not_true_eq_false, not_false_eq_true, decide_true, decide_false] at h); (try (exfalso; omega))))
      | ((with_reducible apply GoP.k2); exact rfl; exact rfl; focus ((simp (disch := omega) only [jJ_lit, jJ_add, jJ_mul, iI_long, jJ_toI, l_lt, l_ge, l_gt, l_le, l_eq, l_ne, jJ_inj, k_ule, k_uln, iI_lit, iI_nat, iI_neg, iI_add, iI_sub, iI_mul, k_lt, k_ge, k_gt, k_le, k_eq, k_ne, k_cl, k_in, iI_inj, k_upe, k_upn, k_wue, k_wun, sI_1, sI_2, sI_3, sI_4, sJ_1, sJ_2, sJ_3, sJ_4, sA_1, sA_2, sA_3, sA_4, sB_1, sB_2, sB_3, sB_4, decide_eq_true_eq, decide_eq_false_iff_not, reduceCtorEq, Int.toNat_natCast, Bool.and_true, mc_tf, List.getD_cons_zero, List.getD_cons_succ, Int.reduceToNat, Int.reduceAdd, Int.reduceSub, Int.reduceMul, Int.reduceNeg, Int.reduceLT, Int.reduceLE, Int.reduceEq, not_true_eq_false, not_false_eq_true, decide_true, decide_false]) <;> omega))
      | ((with_reducible apply GoP.k4); exact rfl; exact rfl; exact rfl; try dsimp only [Option.toList, List.cons_append, List.nil_append])
      | ((with_reducible apply GoP.k5); exact rfl; exact rfl)
      | ((with_reducible apply GoA.sw); all_goals (intro h; (try simp (disch := omega) only [jJ_lit, jJ_add, jJ_mul, iI_long, jJ_toI, l_lt, l_ge, l_gt, l_le, l_eq, l_ne, jJ_inj, k_ule, k_uln, iI_lit, iI_nat, iI_neg, iI_add, iI_sub, iI_mul, k_lt, k_ge, k_gt, k_le, k_eq, k_ne, k_cl, k_in, iI_inj, k_upe, k_upn, k_wue, k_wun, sI_1, sI_2, sI_3, sI_4, sJ_1, sJ_2, sJ_3, sJ_4, sA_1, sA_2, sA_3, sA_4, sB_1, sB_2, sB_3, sB_4, decide_eq_true_eq, decide_eq_false_iff_not, reduceCtorEq, Int.toNat_natCast, Bool.and_true, mc_tf, List.getD_cons_zero, List.getD_cons_succ, Int.reduceToNat, Int.reduceAdd, Int.reduceSub, Int.reduceMul, Int.reduceNeg, Int.reduceLT, Int.reduceLE, Int.reduceEq, not_true_eq_false, not_false_eq_true, decide_true, decide_false] at h); (try (exfalso; omega))))
      | ((with_reducible apply GoA.sw0))
      | ((with_reducible apply GoA.c); all_goals (intro h; (try simp (disch := omega) only [jJ_lit, jJ_add, jJ_mul, iI_long, jJ_toI, l_lt, l_ge, l_gt, l_le, l_eq, l_ne, jJ_inj, k_ule, k_uln, iI_lit, iI_nat, iI_neg, iI_add, iI_sub, iI_mul, k_lt, k_ge, k_gt, k_le, k_eq, k_ne, k_cl, k_in, iI_inj, k_upe, k_upn, k_wue, k_wun, sI_1, sI_2, sI_3, sI_4, sJ_1, sJ_2, sJ_3, sJ_4, sA_1, sA_2, sA_3, sA_4, sB_1, sB_2, sB_3, sB_4, decide_eq_true_eq, decide_eq_false_iff_not, reduceCtorEq, Int.toNat_natCast, Bool.and_true, mc_tf, List.getD_cons_zero, List.getD_cons_succ, Int.reduceToNat, Int.reduceAdd, Int.reduceSub, Int.reduceMul, Int.reduceNeg, Int.reduceLT, Int.reduceLE, Int.reduceEq, not_true_eq_false, not_false_eq_true, decide_true, decide_false] at h); (try (exfalso; omega))))
    exact hq
set_option maxRecDepth 100000 in
set_option maxHeartbeats 8000000 in
theorem lx_lay {Lv : Int → Int → Int → Int → Int → Int → Bool} {D G way n : Nat} {z : Int} {M0 : kM} {σ0 : wS} (hD : 28 ≤ D) (hw : way ≤ 3) (hG10 : G ≤ 10) (hT : TOk T) (hn : tN T = n) (hn5 : n ≤ 5) (hz : -1 ≤ z ∧ z < (n : Int)) (hV : pV Lv w σ0) (hX0 : TX T σ0) : ∀ (os : List (List Nat)) (o : List Nat) (tr : Nat) (M : kM) (σ : wS) (ls : Int) (st : Option (Nat × List Nat)) (cc nn : Nat) (x6 : Option Value), tr + os.length + 1 ≤ 120 → chb (o :: os) = true → (∀ p, p ∈ o :: os → p.length = n ∧ ∀ d, d ∈ p → d < n) → KR M σ → HO σ 63 o → lyX n st ls σ → cc + gM M0 = gM M → nn + 2196 * 2 ^ gM M0 = 2196 * 2 ^ gM M → Fr scI scJ scA scB σ0 σ → GoP D tb_X10_lay (76, [some (.ref 0), some (.int (iI ((10 * G + way : Nat) : Int))), some (.int (iI z)), some (.int (iI ls)), some (.int 1), some (.int (iI (tr : Int))), x6], [], xX w M σ, cc, nn) (fun R => ∃ (c : Nat) (b : List Nat) (M' : kM) (σ' : wS) (cc nn : Nat), ly (fun o => cG Lv way G (pmT T o)) (o :: os) st = some (c, b) ∧ R = (some (.int (iI (vLay c b z))), xX w M' σ', cc, nn) ∧ cc + gM M0 = gM M' ∧ nn + 2196 * 2 ^ gM M0 = 2196 * 2 ^ gM M' ∧ KR M' σ' ∧ Fr scI scJ scA scB σ0 σ') := by
  have hn9 := hT.1
  intro os
  induction os with
  | nil =>
    intro o tr M σ ls st cc nn x6 htr hch hall hK hO hL hcc hnn hF
    obtain ⟨hol, hod⟩ := hall o (List.mem_cons_self ..)
    refine lx_layS hD hw hG10 hT hn hn5 hV hX0 (by omega) hol hod hK hO hL hcc hnn hF (fun M2 σ2 ls2 cc2 nn2 x6 g1 g2 g3 g4 g5 g6 => ?_)
    have hnx := cx_next (w := w) (M := M2) (D := D) (by omega) (show n < 6 by omega) hol (fun d hd => by have := hod d hd; omega) g2
    have e0 : nxt o = none := of_decide_eq_true hch
    refine GoP.kc rfl hnx ?_
    rintro R (⟨-, rfl⟩ | ⟨l, σ3, e, -⟩)
    · dsimp only [Option.toList, List.cons_append, List.nil_append]
      rcases g3 with ⟨e, -⟩ | ⟨c, b, e, rfl, h2, h3, h4⟩
      · exfalso
        rcases hL with ⟨e1, -⟩ | ⟨c, b, e1, -⟩
        · rw [e1] at e
          cases e
        · rw [e1] at e
          have e : (if cG Lv way G (pmT T o) < c then some (cG Lv way G (pmT T o), o) else some (c, b)) = none := e
          split at e <;> cases e
      · by_cases hz1 : z = -1
        · subst hz1
          repeat' first
            | ((with_reducible apply GoP.k0); exact rfl; exact rfl)
            | ((with_reducible apply GoP.k1); exact rfl; exact rfl; all_goals (intro h; (try simp (disch := omega) only [jJ_lit, jJ_add, jJ_mul, iI_long, jJ_toI, l_lt, l_ge, l_gt, l_le, l_eq, l_ne, jJ_inj, k_ule, k_uln, iI_lit, iI_nat, iI_neg, iI_add, iI_sub, iI_mul, k_lt, k_ge, k_gt, k_le, k_eq, k_ne, k_cl, k_in, iI_inj, k_upe, k_upn, k_wue, k_wun, sI_1, sI_2, sI_3, sI_4, sJ_1, sJ_2, sJ_3, sJ_4, sA_1, sA_2, sA_3, sA_4, sB_1, sB_2, sB_3, sB_4, decide_eq_true_eq, decide_eq_false_iff_not, reduceCtorEq, Int.toNat_natCast, Bool.and_true, mc_tf, List.getD_cons_zero, List.getD_cons_succ, Int.reduceToNat, Int.reduceAdd, Int.reduceSub, Int.reduceMul, Int.reduceNeg, Int.reduceLT, Int.reduceLE, Int.reduceEq, not_true_eq_false, not_false_eq_true, decide_true, decide_false] at h); (try (exfalso; omega))))
            | ((with_reducible apply GoP.k2); exact rfl; exact rfl; focus ((simp (disch := omega) only [jJ_lit, jJ_add, jJ_mul, iI_long, jJ_toI, l_lt, l_ge, l_gt, l_le, l_eq, l_ne, jJ_inj, k_ule, k_uln, iI_lit, iI_nat, iI_neg, iI_add, iI_sub, iI_mul, k_lt, k_ge, k_gt, k_le, k_eq, k_ne, k_cl, k_in, iI_inj, k_upe, k_upn, k_wue, k_wun, sI_1, sI_2, sI_3, sI_4, sJ_1, sJ_2, sJ_3, sJ_4, sA_1, sA_2, sA_3, sA_4, sB_1, sB_2, sB_3, sB_4, decide_eq_true_eq, decide_eq_false_iff_not, reduceCtorEq, Int.toNat_natCast, Bool.and_true, mc_tf, List.getD_cons_zero, List.getD_cons_succ, Int.reduceToNat, Int.reduceAdd, Int.reduceSub, Int.reduceMul, Int.reduceNeg, Int.reduceLT, Int.reduceLE, Int.reduceEq, not_true_eq_false, not_false_eq_true, decide_true, decide_false]) <;> omega))
            | ((with_reducible apply GoP.k4); exact rfl; exact rfl; exact rfl; try dsimp only [Option.toList, List.cons_append, List.nil_append])
            | ((with_reducible apply GoP.k5); exact rfl; exact rfl)
            | ((with_reducible apply GoA.sw); all_goals (intro h; (try simp (disch := omega) only [jJ_lit, jJ_add, jJ_mul, iI_long, jJ_toI, l_lt, l_ge, l_gt, l_le, l_eq, l_ne, jJ_inj, k_ule, k_uln, iI_lit, iI_nat, iI_neg, iI_add, iI_sub, iI_mul, k_lt, k_ge, k_gt, k_le, k_eq, k_ne, k_cl, k_in, iI_inj, k_upe, k_upn, k_wue, k_wun, sI_1, sI_2, sI_3, sI_4, sJ_1, sJ_2, sJ_3, sJ_4, sA_1, sA_2, sA_3, sA_4, sB_1, sB_2, sB_3, sB_4, decide_eq_true_eq, decide_eq_false_iff_not, reduceCtorEq, Int.toNat_natCast, Bool.and_true, mc_tf, List.getD_cons_zero, List.getD_cons_succ, Int.reduceToNat, Int.reduceAdd, Int.reduceSub, Int.reduceMul, Int.reduceNeg, Int.reduceLT, Int.reduceLE, Int.reduceEq, not_true_eq_false, not_false_eq_true, decide_true, decide_false] at h); (try (exfalso; omega))))
            | ((with_reducible apply GoA.sw0))
            | ((with_reducible apply GoA.c); all_goals (intro h; (try simp (disch := omega) only [jJ_lit, jJ_add, jJ_mul, iI_long, jJ_toI, l_lt, l_ge, l_gt, l_le, l_eq, l_ne, jJ_inj, k_ule, k_uln, iI_lit, iI_nat, iI_neg, iI_add, iI_sub, iI_mul, k_lt, k_ge, k_gt, k_le, k_eq, k_ne, k_cl, k_in, iI_inj, k_upe, k_upn, k_wue, k_wun, sI_1, sI_2, sI_3, sI_4, sJ_1, sJ_2, sJ_3, sJ_4, sA_1, sA_2, sA_3, sA_4, sB_1, sB_2, sB_3, sB_4, decide_eq_true_eq, decide_eq_false_iff_not, reduceCtorEq, Int.toNat_natCast, Bool.and_true, mc_tf, List.getD_cons_zero, List.getD_cons_succ, Int.reduceToNat, Int.reduceAdd, Int.reduceSub, Int.reduceMul, Int.reduceNeg, Int.reduceLT, Int.reduceLE, Int.reduceEq, not_true_eq_false, not_false_eq_true, decide_true, decide_false] at h); (try (exfalso; omega))))
          all_goals exact ⟨c, b, M2, σ2, _, _, e, rfl, by omega, by omega, g1, g6⟩
        · obtain ⟨i, rfl⟩ := Int.eq_ofNat_of_zero_le (show 0 ≤ z by omega)
          have h4i := h4 i (by omega)
          repeat' first
            | ((with_reducible apply GoP.k0); exact rfl; exact rfl)
            | ((with_reducible apply GoP.k1); exact rfl; exact rfl; all_goals (intro h; (try simp (disch := omega) only [jJ_lit, jJ_add, jJ_mul, iI_long, jJ_toI, l_lt, l_ge, l_gt, l_le, l_eq, l_ne, jJ_inj, k_ule, k_uln, iI_lit, iI_nat, iI_neg, iI_add, iI_sub, iI_mul, k_lt, k_ge, k_gt, k_le, k_eq, k_ne, k_cl, k_in, iI_inj, k_upe, k_upn, k_wue, k_wun, sI_1, sI_2, sI_3, sI_4, sJ_1, sJ_2, sJ_3, sJ_4, sA_1, sA_2, sA_3, sA_4, sB_1, sB_2, sB_3, sB_4, decide_eq_true_eq, decide_eq_false_iff_not, reduceCtorEq, Int.toNat_natCast, Bool.and_true, mc_tf, List.getD_cons_zero, List.getD_cons_succ, Int.reduceToNat, Int.reduceAdd, Int.reduceSub, Int.reduceMul, Int.reduceNeg, Int.reduceLT, Int.reduceLE, Int.reduceEq, not_true_eq_false, not_false_eq_true, decide_true, decide_false] at h); (try (exfalso; omega))))
            | ((with_reducible apply GoP.k2); exact rfl; exact rfl; focus ((simp (disch := omega) only [jJ_lit, jJ_add, jJ_mul, iI_long, jJ_toI, l_lt, l_ge, l_gt, l_le, l_eq, l_ne, jJ_inj, k_ule, k_uln, iI_lit, iI_nat, iI_neg, iI_add, iI_sub, iI_mul, k_lt, k_ge, k_gt, k_le, k_eq, k_ne, k_cl, k_in, iI_inj, k_upe, k_upn, k_wue, k_wun, sI_1, sI_2, sI_3, sI_4, sJ_1, sJ_2, sJ_3, sJ_4, sA_1, sA_2, sA_3, sA_4, sB_1, sB_2, sB_3, sB_4, decide_eq_true_eq, decide_eq_false_iff_not, reduceCtorEq, Int.toNat_natCast, Bool.and_true, mc_tf, List.getD_cons_zero, List.getD_cons_succ, Int.reduceToNat, Int.reduceAdd, Int.reduceSub, Int.reduceMul, Int.reduceNeg, Int.reduceLT, Int.reduceLE, Int.reduceEq, not_true_eq_false, not_false_eq_true, decide_true, decide_false]) <;> omega))
            | ((with_reducible apply GoP.k4); exact rfl; exact rfl; exact rfl; try dsimp only [Option.toList, List.cons_append, List.nil_append])
            | ((with_reducible apply GoP.k5); exact rfl; exact rfl)
            | ((with_reducible apply GoA.sw); all_goals (intro h; (try simp (disch := omega) only [jJ_lit, jJ_add, jJ_mul, iI_long, jJ_toI, l_lt, l_ge, l_gt, l_le, l_eq, l_ne, jJ_inj, k_ule, k_uln, iI_lit, iI_nat, iI_neg, iI_add, iI_sub, iI_mul, k_lt, k_ge, k_gt, k_le, k_eq, k_ne, k_cl, k_in, iI_inj, k_upe, k_upn, k_wue, k_wun, sI_1, sI_2, sI_3, sI_4, sJ_1, sJ_2, sJ_3, sJ_4, sA_1, sA_2, sA_3, sA_4, sB_1, sB_2, sB_3, sB_4, decide_eq_true_eq, decide_eq_false_iff_not, reduceCtorEq, Int.toNat_natCast, Bool.and_true, mc_tf, List.getD_cons_zero, List.getD_cons_succ, Int.reduceToNat, Int.reduceAdd, Int.reduceSub, Int.reduceMul, Int.reduceNeg, Int.reduceLT, Int.reduceLE, Int.reduceEq, not_true_eq_false, not_false_eq_true, decide_true, decide_false] at h); (try (exfalso; omega))))
            | ((with_reducible apply GoA.sw0))
            | ((with_reducible apply GoA.c); all_goals (intro h; (try simp (disch := omega) only [jJ_lit, jJ_add, jJ_mul, iI_long, jJ_toI, l_lt, l_ge, l_gt, l_le, l_eq, l_ne, jJ_inj, k_ule, k_uln, iI_lit, iI_nat, iI_neg, iI_add, iI_sub, iI_mul, k_lt, k_ge, k_gt, k_le, k_eq, k_ne, k_cl, k_in, iI_inj, k_upe, k_upn, k_wue, k_wun, sI_1, sI_2, sI_3, sI_4, sJ_1, sJ_2, sJ_3, sJ_4, sA_1, sA_2, sA_3, sA_4, sB_1, sB_2, sB_3, sB_4, decide_eq_true_eq, decide_eq_false_iff_not, reduceCtorEq, Int.toNat_natCast, Bool.and_true, mc_tf, List.getD_cons_zero, List.getD_cons_succ, Int.reduceToNat, Int.reduceAdd, Int.reduceSub, Int.reduceMul, Int.reduceNeg, Int.reduceLT, Int.reduceLE, Int.reduceEq, not_true_eq_false, not_false_eq_true, decide_true, decide_false] at h); (try (exfalso; omega))))
          all_goals refine ⟨c, b, M2, σ2, _, _, e, R_int ?_ rfl, by omega, by omega, g1, g6⟩
          all_goals unfold vLay
          all_goals rw [if_neg hz1, k_cl (by omega), Int.toNat_natCast, h4i]
    · rw [e0] at e
      cases e
  | cons o2 os ih =>
    intro o tr M σ ls st cc nn x6 htr hch hall hK hO hL hcc hnn hF
    have htr : tr + (os.length + 1) + 1 ≤ 120 := htr
    obtain ⟨hol, hod⟩ := hall o (List.mem_cons_self ..)
    have hch : (decide (nxt o = some o2) && chb (o2 :: os)) = true := hch
    obtain ⟨hc1, hc2⟩ := (Bool.and_eq_true _ _).mp hch
    have e0 : nxt o = some o2 := of_decide_eq_true hc1
    refine lx_layS hD hw hG10 hT hn hn5 hV hX0 (by omega) hol hod hK hO hL hcc hnn hF (fun M2 σ2 ls2 cc2 nn2 x6 g1 g2 g3 g4 g5 g6 => ?_)
    have hnx := cx_next (w := w) (M := M2) (D := D) (by omega) (show n < 6 by omega) hol (fun d hd => by have := hod d hd; omega) g2
    refine GoP.kc rfl hnx ?_
    rintro R (⟨e, -⟩ | ⟨l, σ3, e, hll, rfl, hr3, hF3⟩)
    · rw [e0] at e
      cases e
    · rw [e0] at e
      cases e
      dsimp only [Option.toList, List.cons_append, List.nil_append]
      have g3' : lyX n (lyS (fun o => cG Lv way G (pmT T o)) st o) ls2 σ3 := by
        rcases g3 with h | ⟨c, b, e, h1, h2, h3, h4⟩
        · exact Or.inl h
        · exact Or.inr ⟨c, b, e, h1, h2, h3, h4.fr hF3 (by decide)⟩
      have hq := ih o2 (tr + 1) M2 σ3 ls2 _ (cc2 + 0) (nn2 + 0) x6 (by omega) hc2 (fun p hp => hall p (List.mem_cons_of_mem _ hp)) (g1.mv hF3 (by decide)) hr3 g3' (by omega) (by omega) (g6.tr (hF3.up (by decide)))
      repeat' first
        | ((with_reducible show GoP _ _ (76, _) _); refine Hold.of ?_)
        | ((with_reducible apply GoP.k0); exact rfl; exact rfl)
        | ((with_reducible apply GoP.k1); exact rfl; exact rfl; all_goals (intro h; (try simp (disch := omega) only [jJ_lit, jJ_add, jJ_mul, iI_long, jJ_toI, l_lt, l_ge, l_gt, l_le, l_eq, l_ne, jJ_inj, k_ule, k_uln, iI_lit, iI_nat, iI_neg, iI_add, iI_sub, iI_mul, k_lt, k_ge, k_gt, k_le, k_eq, k_ne, k_cl, k_in, iI_inj, k_upe, k_upn, k_wue, k_wun, sI_1, sI_2, sI_3, sI_4, sJ_1, sJ_2, sJ_3, sJ_4, sA_1, sA_2, sA_3, sA_4, sB_1, sB_2, sB_3, sB_4, decide_eq_true_eq, decide_eq_false_iff_not, reduceCtorEq, Int.toNat_natCast, Bool.and_true, mc_tf, List.getD_cons_zero, List.getD_cons_succ, Int.reduceToNat, Int.reduceAdd, Int.reduceSub, Int.reduceMul, Int.reduceNeg, Int.reduceLT, Int.reduceLE, Int.reduceEq, not_true_eq_false, not_false_eq_true, decide_true, decide_false] at h); (try (exfalso; omega))))
        | ((with_reducible apply GoP.k2); exact rfl; exact rfl; focus ((simp (disch := omega) only [jJ_lit, jJ_add, jJ_mul, iI_long, jJ_toI, l_lt, l_ge, l_gt, l_le, l_eq, l_ne, jJ_inj, k_ule, k_uln, iI_lit, iI_nat, iI_neg, iI_add, iI_sub, iI_mul, k_lt, k_ge, k_gt, k_le, k_eq, k_ne, k_cl, k_in, iI_inj, k_upe, k_upn, k_wue, k_wun, sI_1, sI_2, sI_3, sI_4, sJ_1, sJ_2, sJ_3, sJ_4, sA_1, sA_2, sA_3, sA_4, sB_1, sB_2, sB_3, sB_4, decide_eq_true_eq, decide_eq_false_iff_not, reduceCtorEq, Int.toNat_natCast, Bool.and_true, mc_tf, List.getD_cons_zero, List.getD_cons_succ, Int.reduceToNat, Int.reduceAdd, Int.reduceSub, Int.reduceMul, Int.reduceNeg, Int.reduceLT, Int.reduceLE, Int.reduceEq, not_true_eq_false, not_false_eq_true, decide_true, decide_false]) <;> omega))
        | ((with_reducible apply GoP.k4); exact rfl; exact rfl; exact rfl; try dsimp only [Option.toList, List.cons_append, List.nil_append])
        | ((with_reducible apply GoP.k5); exact rfl; exact rfl)
        | ((with_reducible apply GoA.sw); all_goals (intro h; (try simp (disch := omega) only [jJ_lit, jJ_add, jJ_mul, iI_long, jJ_toI, l_lt, l_ge, l_gt, l_le, l_eq, l_ne, jJ_inj, k_ule, k_uln, iI_lit, iI_nat, iI_neg, iI_add, iI_sub, iI_mul, k_lt, k_ge, k_gt, k_le, k_eq, k_ne, k_cl, k_in, iI_inj, k_upe, k_upn, k_wue, k_wun, sI_1, sI_2, sI_3, sI_4, sJ_1, sJ_2, sJ_3, sJ_4, sA_1, sA_2, sA_3, sA_4, sB_1, sB_2, sB_3, sB_4, decide_eq_true_eq, decide_eq_false_iff_not, reduceCtorEq, Int.toNat_natCast, Bool.and_true, mc_tf, List.getD_cons_zero, List.getD_cons_succ, Int.reduceToNat, Int.reduceAdd, Int.reduceSub, Int.reduceMul, Int.reduceNeg, Int.reduceLT, Int.reduceLE, Int.reduceEq, not_true_eq_false, not_false_eq_true, decide_true, decide_false] at h); (try (exfalso; omega))))
        | ((with_reducible apply GoA.sw0))
        | ((with_reducible apply GoA.c); all_goals (intro h; (try simp (disch := omega) only [jJ_lit, jJ_add, jJ_mul, iI_long, jJ_toI, l_lt, l_ge, l_gt, l_le, l_eq, l_ne, jJ_inj, k_ule, k_uln, iI_lit, iI_nat, iI_neg, iI_add, iI_sub, iI_mul, k_lt, k_ge, k_gt, k_le, k_eq, k_ne, k_cl, k_in, iI_inj, k_upe, k_upn, k_wue, k_wun, sI_1, sI_2, sI_3, sI_4, sJ_1, sJ_2, sJ_3, sJ_4, sA_1, sA_2, sA_3, sA_4, sB_1, sB_2, sB_3, sB_4, decide_eq_true_eq, decide_eq_false_iff_not, reduceCtorEq, Int.toNat_natCast, Bool.and_true, mc_tf, List.getD_cons_zero, List.getD_cons_succ, Int.reduceToNat, Int.reduceAdd, Int.reduceSub, Int.reduceMul, Int.reduceNeg, Int.reduceLT, Int.reduceLE, Int.reduceEq, not_true_eq_false, not_false_eq_true, decide_true, decide_false] at h); (try (exfalso; omega))))
      rw [show iI (tr : Int) + 1 = iI ((tr + 1 : Nat) : Int) by rw [iI_lit, iI_add]; rfl]
      exact hq
end
