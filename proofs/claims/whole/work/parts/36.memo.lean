/-! The class's memo. -/
theorem R_int {a b : Int32} {h h' : mc_H} {c n : Nat} (e : a = b) (eh : h = h') : ((some (.int a), h, c, n) : mc_R) = (some (.int b), h', c, n) := by rw [e, eh]
theorem R_long {a b : Int64} {h h' : mc_H} {c n : Nat} (e : a = b) (eh : h = h') : ((some (.long a), h, c, n) : mc_R) = (some (.long b), h', c, n) := by rw [e, eh]
def updN (f : Nat → Nat) (s x : Nat) : Nat → Nat := fun j => if j = s then x else f j
theorem updN_e {f : Nat → Nat} {s x : Nat} : updN f s x s = x := if_pos rfl
theorem updN_n {f : Nat → Nat} {s x j : Nat} (h : ¬ j = s) : updN f s x j = f j := if_neg h
def cnt (f : Nat → Nat) : Nat → Nat
  | 0 => 0
  | n + 1 => cnt f n + (if f n = 0 then 0 else 1)
theorem cnt_le (f : Nat → Nat) : ∀ n, cnt f n ≤ n
  | 0 => Nat.le_refl _
  | n + 1 => by
    have := cnt_le f n
    unfold cnt
    split <;> omega
theorem cnt_congr {f g : Nat → Nat} : ∀ n, (∀ j, j < n → f j = g j) → cnt f n = cnt g n
  | 0, _ => rfl
  | n + 1, h => by
    unfold cnt
    rw [cnt_congr n (fun j hj => h j (by omega)), h n (by omega)]
theorem cnt_upd {f : Nat → Nat} {s x : Nat} (h0 : f s = 0) (hx : ¬ x = 0) : ∀ n, s < n → cnt (updN f s x) n = cnt f n + 1
  | 0, h => by omega
  | n + 1, h => by
    unfold cnt
    by_cases hs : s = n
    · subst hs
      rw [cnt_congr (g := f) s (fun j hj => updN_n (by omega)), updN_e, if_neg hx, if_pos h0]
    · rw [cnt_upd h0 hx n (by omega), updN_n (by omega)]
      omega
/-- where 'known' lies: grown g times -/
def TL (g : Nat) (K : Nat → Int64) (tl : mc_H) (kd : Nat) (σ : wS) : Prop := (g = 0 ∧ tl = [] ∧ kd = 46 ∧ σ.2.2.2 46 = K) ∨ ∃ tl0 : mc_H, g = tl0.length + 1 ∧ tl = tl0 ++ [.inl (1, 1098 * 2 ^ g, .inr (.inl K))] ∧ kd = 65 + tl0.length
section
variable {w : Bool} {g kd : Nat} {K : Nat → Int64} {tl : mc_H} {σ : wS}
theorem TL.len (h : TL g K tl kd σ) : tl.length = g := by
  rcases h with ⟨rfl, rfl, rfl, rfl⟩ | ⟨tl0, rfl, rfl, rfl⟩
  · rfl
  · simp
theorem TL.get (h : TL g K tl kd σ) (kd' : Nat) : mc_get (mkX w tl kd' σ) kd = some (.inl (1, 1098 * 2 ^ g, .inr (.inl K))) := by
  rcases h with ⟨rfl, rfl, rfl, rfl⟩ | ⟨tl0, rfl, rfl, rfl⟩
  · rfl
  · rw [mkX_get, List.getElem?_append_right (Nat.le_refl _), Nat.sub_self]
    rfl
theorem TL.mv {σ' : wS} (h : TL g K tl kd σ) (e : σ'.2.2.2 46 = σ.2.2.2 46) : TL g K tl kd σ' := by
  rcases h with ⟨h1, h2, h3, h4⟩ | h
  · exact Or.inl ⟨h1, h2, h3, e.trans h4⟩
  · exact Or.inr h
theorem TL.set (h : TL g K tl kd σ) (K' : Nat → Int64) : ∃ (tl' : mc_H) (σ' : wS), (mkX w tl kd σ).set kd (.inl (1, 1098 * 2 ^ g, .inr (.inl K'))) = mkX w tl' kd σ' ∧ TL g K' tl' kd σ' ∧ σ'.1 = σ.1 ∧ σ'.2.1 = σ.2.1 ∧ σ'.2.2.1 = σ.2.2.1 ∧ ∀ k, ¬ k = 46 → σ'.2.2.2 k = σ.2.2.2 k := by
  rcases h with ⟨rfl, rfl, rfl, rfl⟩ | ⟨tl0, rfl, rfl, rfl⟩
  · exact ⟨[], sB σ 46 K', rfl, Or.inl ⟨rfl, rfl, rfl, (k_wue : wu σ.2.2.2 46 K' 46 = K')⟩, rfl, rfl, rfl, fun k hk => (k_wun hk : wu σ.2.2.2 46 K' k = σ.2.2.2 k)⟩
  · refine ⟨tl0 ++ [.inl (1, 1098 * 2 ^ (tl0.length + 1), .inr (.inl K'))], σ, ?_, Or.inr ⟨tl0, rfl, rfl, rfl⟩, rfl, rfl, rfl, fun _ _ => rfl⟩
    rw [mkX_set, List.set_append_right _ _ (Nat.le_refl _), Nat.sub_self]
    rfl
theorem TL.get2 (h : TL g K tl kd σ) (kd' : Nat) (x : mc_H) : mc_get (mkX w (tl ++ x) kd' σ) kd = some (.inl (1, 1098 * 2 ^ g, .inr (.inl K))) := by
  rcases h with ⟨rfl, rfl, rfl, rfl⟩ | ⟨tl0, rfl, rfl, rfl⟩
  · rfl
  · rw [mkX_get]
    simp
theorem mkX_length (w : Bool) (tl : mc_H) (kd : Nat) (σ : wS) : (mkX w tl kd σ).length = 65 + tl.length := by
  rw [mkX_app, List.length_append, mkX_len]
theorem mkX_get_last (w : Bool) (tl : mc_H) (kd : Nat) (σ : wS) (x : va_E) : mc_get (mkX w (tl ++ [x]) kd σ) (65 + tl.length) = some x := by
  rw [mkX_get]
  simp
theorem mkX_set_last (w : Bool) (tl : mc_H) (kd : Nat) (σ : wS) (x y : va_E) : (mkX w (tl ++ [x]) kd σ).set (65 + tl.length) y = mkX w (tl ++ [y]) kd σ := by
  rw [mkX_set, List.set_append_right _ _ (Nat.le_refl _), Nat.sub_self]
  rfl
theorem TL.grow (h : TL g K tl kd σ) (K' : Nat → Int64) (σ' : wS) : TL (g + 1) K' (tl ++ [.inl (1, 1098 * 2 ^ (g + 1), .inr (.inl K'))]) (65 + tl.length) σ' := Or.inr ⟨tl, by rw [h.len], rfl, rfl⟩
end
/-- the memo: how often it grew, how many blocks, the block of the signs, what is kept, the rows behind, the row -/
abbrev kM : Type := Nat × Nat × (Nat → Nat) × (Nat → Nat) × mc_H × Nat
abbrev gM (M : kM) : Nat := M.1
abbrev mM (M : kM) : Nat := M.2.1
abbrev bM (M : kM) : Nat → Nat := M.2.2.1
abbrev vM (M : kM) : Nat → Nat := M.2.2.2.1
abbrev xX (w : Bool) (M : kM) (σ : wS) : mc_H := mkX w M.2.2.2.2.1 M.2.2.2.2.2 σ
def KM (st : Nat) (M : kM) (σ : wS) : Prop := ∃ K : Nat → Int64, TL (gM M) K M.2.2.2.2.1 M.2.2.2.2.2 σ ∧ (∀ q, q < 1098 * 2 ^ gM M → K q = jJ (vM M q : Int) ∧ vM M q < 9223372036854775808 ∧ vM M q / 17592186044416 ≤ st) ∧ σ.1 4503 = iI (mM M : Int) ∧ mM M ≤ 2 * 2 ^ gM M ∧ mM M = cnt (bM M) 64 ∧ (∀ s, s < 64 → σ.2.2.1 47 s = iI (bM M s : Int) ∧ bM M s ≤ mM M) ∧ (∀ s s', s < 64 → s' < 64 → bM M s = bM M s' → ¬ bM M s = 0 → s = s') ∧ gM M ≤ 5 ∧ σ.2.1 4506 = jJ (st : Int) ∧ st ≤ 524287 ∧ ∀ q, mM M * 549 ≤ q → q < 1098 * 2 ^ gM M → vM M q = 0
/-- what was kept in this look is right -/
def CU (T : tT) (p : Nat) (c : Nat → Nat) (e st : Nat) (M : kM) : Prop := ∀ i s room, i < e → s < 64 → room ≤ 60 → ¬ bM M s = 0 → vM M ((bM M s - 1) * 549 + (i * 61 + room)) / 17592186044416 = st → ((vM M ((bM M s - 1) * 549 + (i * 61 + room)) % 17592186044416 : Nat) : Int) = va T p c (e - i) i room (s % 32) (s / 32)
/-- all but the memo is as it was -/
def Fm (σ σ' : wS) : Prop := (∀ k, ¬ k = 4503 → ¬ k = 4509 → σ'.1 k = σ.1 k) ∧ σ'.2.1 = σ.2.1 ∧ (∀ k, ¬ k = 47 → σ'.2.2.1 k = σ.2.2.1 k) ∧ ∀ k, ¬ k = 46 → σ'.2.2.2 k = σ.2.2.2 k
theorem Fm.rf {σ : wS} : Fm σ σ := ⟨fun _ _ _ => rfl, rfl, fun _ _ => rfl, fun _ _ => rfl⟩
theorem Fm.tr {σ1 σ2 σ3 : wS} (h : Fm σ1 σ2) (h' : Fm σ2 σ3) : Fm σ1 σ3 := ⟨fun k a b => (h'.1 k a b).trans (h.1 k a b), h'.2.1.trans h.2.1, fun k a => (h'.2.2.1 k a).trans (h.2.2.1 k a), fun k a => (h'.2.2.2 k a).trans (h.2.2.2 k a)⟩
theorem pow_le5 {g : Nat} (h : g ≤ 5) : 1 ≤ 2 ^ g ∧ 2 ^ g ≤ 32 := ⟨Nat.one_le_two_pow, Nat.pow_le_pow_right (by decide) h⟩
/-- one more block -/
theorem KM.blk {st g met s kd : Nat} {bl kv : Nat → Nat} {tl : mc_H} {σ : wS} (hs : s < 64) (h0 : bl s = 0) (hK : KM st (g, met, bl, kv, tl, kd) σ) {g' kd' : Nat} {kv' : Nat → Nat} {tl' : mc_H} {K' : Nat → Int64} (hT : TL g' K' tl' kd' σ) (hg : g' ≤ 5) (hm : met + 1 ≤ 2 * 2 ^ g') (hv : ∀ q, q < 1098 * 2 ^ g' → K' q = jJ (kv' q : Int) ∧ kv' q < 9223372036854775808 ∧ kv' q / 17592186044416 ≤ st) (hz : ∀ q, (met + 1) * 549 ≤ q → q < 1098 * 2 ^ g' → kv' q = 0) : KM st (g', met + 1, updN bl s (met + 1), kv', tl', kd') (sA (sI σ 4503 (iI ((met + 1 : Nat) : Int))) 47 (upd (σ.2.2.1 47) s (iI ((met + 1 : Nat) : Int)))) := by
  obtain ⟨K, hT0, hv0, h1, hmet, hcnt, hbl, hinj, hg0, hst2, hst3, hz0⟩ := hK
  dsimp only [gM, mM, bM, vM] at hT0 hv0 h1 hmet hcnt hbl hinj hg0 hz0
  refine ⟨K', hT.mv rfl, hv, (k_wue : wu σ.1 4503 (iI ((met + 1 : Nat) : Int)) 4503 = _), hm, ?_, ?_, ?_, hg, hst2, hst3, hz⟩
  · show met + 1 = cnt (updN bl s (met + 1)) 64
    rw [cnt_upd h0 (by omega) 64 hs, ← hcnt]
  · intro t ht
    show wu σ.2.2.1 47 (upd (σ.2.2.1 47) s (iI ((met + 1 : Nat) : Int))) 47 t = iI (updN bl s (met + 1) t : Int) ∧ updN bl s (met + 1) t ≤ met + 1
    rw [k_wue]
    by_cases hts : t = s
    · subst hts
      rw [k_upe rfl, updN_e]
      exact ⟨rfl, Nat.le_refl _⟩
    · rw [k_upn hts, updN_n hts]
      exact ⟨(hbl t ht).1, Nat.le_succ_of_le (hbl t ht).2⟩
  · intro t t' ht ht' e hne
    have e : updN bl s (met + 1) t = updN bl s (met + 1) t' := e
    have hne : ¬ updN bl s (met + 1) t = 0 := hne
    by_cases hts : t = s
    · by_cases hts' : t' = s
      · rw [hts, hts']
      · rw [hts, updN_e, updN_n hts'] at e
        have := (hbl t' ht').2
        omega
    · by_cases hts' : t' = s
      · rw [hts', updN_e, updN_n hts] at e
        have := (hbl t ht).2
        omega
      · rw [updN_n hts, updN_n hts'] at e
        rw [updN_n hts] at hne
        exact hinj t t' ht ht' e hne
theorem CU.blk {T : tT} {p : Nat} {c : Nat → Nat} {e st g g' met s kd kd' : Nat} {bl kv kv' : Nat → Nat} {tl tl' : mc_H} {σ : wS} (hs : s < 64) (hst : 1 ≤ st) (he : e ≤ 9) (hK : KM st (g, met, bl, kv, tl, kd) σ) (hC : CU T p c e st (g, met, bl, kv, tl, kd)) (hv : ∀ q, q < met * 549 → kv' q = kv q) (hz : ∀ q, met * 549 ≤ q → q < (met + 1) * 549 → kv' q = 0) : CU T p c e st (g', met + 1, updN bl s (met + 1), kv', tl', kd') := by
  obtain ⟨K, hT0, hv0, h1, hmet, hcnt, hbl, hinj, hg0, hst2, hst3, hz0⟩ := hK
  dsimp only [gM, mM, bM, vM] at hT0 hv0 h1 hmet hcnt hbl hinj hg0 hz0
  intro i t room hi ht hr hb hq
  dsimp only [bM, vM] at hb hq ⊢
  by_cases hts : t = s
  · subst hts
    rw [updN_e, hz _ (by omega) (by omega)] at hq
    omega
  · rw [updN_n hts] at hb hq ⊢
    have := (hbl t ht).2
    rw [hv _ (by omega)] at hq ⊢
    exact hC i t room hi ht hr hb hq
theorem Fm.blk {σ : wS} {x : Int32} {f : Nat → Int32} : Fm σ (sA (sI σ 4503 x) 47 f) := ⟨fun k h1 _ => (k_wun h1 : wu σ.1 4503 x k = σ.1 k), rfl, fun k h1 => (k_wun h1 : wu σ.2.2.1 47 f k = σ.2.2.1 k), fun _ _ => rfl⟩
set_option maxRecDepth 100000 in
set_option maxHeartbeats 4000000 in
theorem ct_blockOf {w : Bool} {T : tT} {p : Nat} {c : Nat → Nat} {e st D s : Nat} {M : kM} {σ : wS} (hD : 3 ≤ D) (hs : s < 64) (hK : KM st M σ) (hC : CU T p c e st M) (hst : 1 ≤ st) (he : e ≤ 9) : EvP D 6 [.ref 45, .int (iI (s : Int))] (xX w M σ) (fun R => ∃ (M' : kM) (σ' : wS) (cc nn : Nat), R = (some (.int (iI (((bM M' s - 1) * 549 : Nat) : Int))), xX w M' σ', cc, nn) ∧ cc + gM M = gM M' ∧ nn + 2196 * 2 ^ gM M = 2196 * 2 ^ gM M' ∧ KM st M' σ' ∧ CU T p c e st M' ∧ ¬ bM M' s = 0 ∧ Fm σ σ' ∧ ∀ t, ¬ bM M t = 0 → bM M' t = bM M t) := by
  obtain ⟨D, rfl⟩ : ∃ D', D = D' + 3 := ⟨D - 3, by omega⟩
  obtain ⟨g, met, bl, kv, tl, kd⟩ := M
  have hK0 := hK
  obtain ⟨K, hT, hv, h1, hmet, hcnt, hbl, hinj, hg, hst2, hst3, hz⟩ := hK
  dsimp only [gM, mM, bM, vM, xX] at hT hv h1 hmet hcnt hbl hinj hg hz ⊢
  obtain ⟨hG1, hG2⟩ := pow_le5 hg
  have hb := (hbl s hs).1
  have hb2 := (hbl s hs).2
  have hmet2 : met ≤ 64 := by
    rw [hcnt]
    exact cnt_le bl 64
  refine EvP.kof (T := tb_X0_blockOf) rfl rfl ?_
  dsimp only [mc_pad, mc_exp]
  by_cases h0 : bl s = 0
  · repeat' first
      | ((with_reducible apply GoP.k0); exact rfl; exact rfl)
      | ((with_reducible apply GoP.k1); exact rfl; exact rfl; all_goals (intro h; (try simp (disch := omega) only [jJ_lit, jJ_add, jJ_mul, iI_long, jJ_toI, l_lt, l_ge, l_gt, l_le, l_eq, l_ne, jJ_inj, k_ule, k_uln, iI_lit, iI_nat, iI_neg, iI_add, iI_sub, iI_mul, k_lt, k_ge, k_gt, k_le, k_eq, k_ne, k_cl, k_in, iI_inj, k_upe, k_upn, k_wue, k_wun, sI_1, sI_2, sI_3, sI_4, sJ_1, sJ_2, sJ_3, sJ_4, sA_1, sA_2, sA_3, sA_4, sB_1, sB_2, sB_3, sB_4, decide_eq_true_eq, decide_eq_false_iff_not, reduceCtorEq, Int.toNat_natCast, Bool.and_true, mc_tf, List.getD_cons_zero, List.getD_cons_succ, Int.reduceToNat, Int.reduceAdd, Int.reduceSub, Int.reduceMul, Int.reduceNeg, Int.reduceLT, Int.reduceLE, Int.reduceEq, not_true_eq_false, not_false_eq_true, decide_true, decide_false, hb, h0] at h); (try (exfalso; omega))))
      | ((with_reducible apply GoP.k2); exact rfl; exact rfl; focus ((simp (disch := omega) only [jJ_lit, jJ_add, jJ_mul, iI_long, jJ_toI, l_lt, l_ge, l_gt, l_le, l_eq, l_ne, jJ_inj, k_ule, k_uln, iI_lit, iI_nat, iI_neg, iI_add, iI_sub, iI_mul, k_lt, k_ge, k_gt, k_le, k_eq, k_ne, k_cl, k_in, iI_inj, k_upe, k_upn, k_wue, k_wun, sI_1, sI_2, sI_3, sI_4, sJ_1, sJ_2, sJ_3, sJ_4, sA_1, sA_2, sA_3, sA_4, sB_1, sB_2, sB_3, sB_4, decide_eq_true_eq, decide_eq_false_iff_not, reduceCtorEq, Int.toNat_natCast, Bool.and_true, mc_tf, List.getD_cons_zero, List.getD_cons_succ, Int.reduceToNat, Int.reduceAdd, Int.reduceSub, Int.reduceMul, Int.reduceNeg, Int.reduceLT, Int.reduceLE, Int.reduceEq, not_true_eq_false, not_false_eq_true, decide_true, decide_false, hb, h0]) <;> omega))
      | ((with_reducible apply GoP.k4); exact rfl; exact rfl; exact rfl; try dsimp only [Option.toList, List.cons_append, List.nil_append])
      | ((with_reducible apply GoP.k5); exact rfl; exact rfl)
      | ((with_reducible apply GoA.sw); all_goals (intro h; (try simp (disch := omega) only [jJ_lit, jJ_add, jJ_mul, iI_long, jJ_toI, l_lt, l_ge, l_gt, l_le, l_eq, l_ne, jJ_inj, k_ule, k_uln, iI_lit, iI_nat, iI_neg, iI_add, iI_sub, iI_mul, k_lt, k_ge, k_gt, k_le, k_eq, k_ne, k_cl, k_in, iI_inj, k_upe, k_upn, k_wue, k_wun, sI_1, sI_2, sI_3, sI_4, sJ_1, sJ_2, sJ_3, sJ_4, sA_1, sA_2, sA_3, sA_4, sB_1, sB_2, sB_3, sB_4, decide_eq_true_eq, decide_eq_false_iff_not, reduceCtorEq, Int.toNat_natCast, Bool.and_true, mc_tf, List.getD_cons_zero, List.getD_cons_succ, Int.reduceToNat, Int.reduceAdd, Int.reduceSub, Int.reduceMul, Int.reduceNeg, Int.reduceLT, Int.reduceLE, Int.reduceEq, not_true_eq_false, not_false_eq_true, decide_true, decide_false, hb, h0] at h); (try (exfalso; omega))))
      | ((with_reducible apply GoA.sw0))
      | ((with_reducible apply GoA.c); all_goals (intro h; (try simp (disch := omega) only [jJ_lit, jJ_add, jJ_mul, iI_long, jJ_toI, l_lt, l_ge, l_gt, l_le, l_eq, l_ne, jJ_inj, k_ule, k_uln, iI_lit, iI_nat, iI_neg, iI_add, iI_sub, iI_mul, k_lt, k_ge, k_gt, k_le, k_eq, k_ne, k_cl, k_in, iI_inj, k_upe, k_upn, k_wue, k_wun, sI_1, sI_2, sI_3, sI_4, sJ_1, sJ_2, sJ_3, sJ_4, sA_1, sA_2, sA_3, sA_4, sB_1, sB_2, sB_3, sB_4, decide_eq_true_eq, decide_eq_false_iff_not, reduceCtorEq, Int.toNat_natCast, Bool.and_true, mc_tf, List.getD_cons_zero, List.getD_cons_succ, Int.reduceToNat, Int.reduceAdd, Int.reduceSub, Int.reduceMul, Int.reduceNeg, Int.reduceLT, Int.reduceLE, Int.reduceEq, not_true_eq_false, not_false_eq_true, decide_true, decide_false, hb, h0] at h); (try (exfalso; omega))))
    show GoP _ _ (_, _, _, mkX w tl kd (sA (sI σ 4503 (σ.1 4503 + 1)) 47 (upd (σ.2.2.1 47) (iI (s : Int)).toNatClampNeg (σ.1 4503 + 1))), _, _) _
    refine GoP.kal rfl ((hT.mv (σ' := sA (sI σ 4503 (σ.1 4503 + 1)) 47 (upd (σ.2.2.1 47) (iI (s : Int)).toNatClampNeg (σ.1 4503 + 1))) rfl).get kd) ?_
    have hcl : (iI (s : Int)).toNatClampNeg = s := by
      rw [k_cl (by omega)]
      omega
    have h1' : σ.1 4503 + 1 = iI ((met + 1 : Nat) : Int) := by
      rw [h1, iI_lit, iI_add]
      rfl
    rw [hcl, h1']
    repeat' first
      | ((with_reducible apply GoP.k0); exact rfl; exact rfl)
      | ((with_reducible apply GoP.k1); exact rfl; exact rfl; all_goals (intro h; (try simp (disch := omega) only [jJ_lit, jJ_add, jJ_mul, iI_long, jJ_toI, l_lt, l_ge, l_gt, l_le, l_eq, l_ne, jJ_inj, k_ule, k_uln, iI_lit, iI_nat, iI_neg, iI_add, iI_sub, iI_mul, k_lt, k_ge, k_gt, k_le, k_eq, k_ne, k_cl, k_in, iI_inj, k_upe, k_upn, k_wue, k_wun, sI_1, sI_2, sI_3, sI_4, sJ_1, sJ_2, sJ_3, sJ_4, sA_1, sA_2, sA_3, sA_4, sB_1, sB_2, sB_3, sB_4, decide_eq_true_eq, decide_eq_false_iff_not, reduceCtorEq, Int.toNat_natCast, Bool.and_true, mc_tf, List.getD_cons_zero, List.getD_cons_succ, Int.reduceToNat, Int.reduceAdd, Int.reduceSub, Int.reduceMul, Int.reduceNeg, Int.reduceLT, Int.reduceLE, Int.reduceEq, not_true_eq_false, not_false_eq_true, decide_true, decide_false] at h); (try (exfalso; omega))))
      | ((with_reducible apply GoP.k2); exact rfl; exact rfl; focus ((simp (disch := omega) only [jJ_lit, jJ_add, jJ_mul, iI_long, jJ_toI, l_lt, l_ge, l_gt, l_le, l_eq, l_ne, jJ_inj, k_ule, k_uln, iI_lit, iI_nat, iI_neg, iI_add, iI_sub, iI_mul, k_lt, k_ge, k_gt, k_le, k_eq, k_ne, k_cl, k_in, iI_inj, k_upe, k_upn, k_wue, k_wun, sI_1, sI_2, sI_3, sI_4, sJ_1, sJ_2, sJ_3, sJ_4, sA_1, sA_2, sA_3, sA_4, sB_1, sB_2, sB_3, sB_4, decide_eq_true_eq, decide_eq_false_iff_not, reduceCtorEq, Int.toNat_natCast, Bool.and_true, mc_tf, List.getD_cons_zero, List.getD_cons_succ, Int.reduceToNat, Int.reduceAdd, Int.reduceSub, Int.reduceMul, Int.reduceNeg, Int.reduceLT, Int.reduceLE, Int.reduceEq, not_true_eq_false, not_false_eq_true, decide_true, decide_false]) <;> omega))
      | ((with_reducible apply GoP.k4); exact rfl; exact rfl; exact rfl; try dsimp only [Option.toList, List.cons_append, List.nil_append])
      | ((with_reducible apply GoP.k5); exact rfl; exact rfl)
      | ((with_reducible apply GoA.sw); all_goals (intro h; (try simp (disch := omega) only [jJ_lit, jJ_add, jJ_mul, iI_long, jJ_toI, l_lt, l_ge, l_gt, l_le, l_eq, l_ne, jJ_inj, k_ule, k_uln, iI_lit, iI_nat, iI_neg, iI_add, iI_sub, iI_mul, k_lt, k_ge, k_gt, k_le, k_eq, k_ne, k_cl, k_in, iI_inj, k_upe, k_upn, k_wue, k_wun, sI_1, sI_2, sI_3, sI_4, sJ_1, sJ_2, sJ_3, sJ_4, sA_1, sA_2, sA_3, sA_4, sB_1, sB_2, sB_3, sB_4, decide_eq_true_eq, decide_eq_false_iff_not, reduceCtorEq, Int.toNat_natCast, Bool.and_true, mc_tf, List.getD_cons_zero, List.getD_cons_succ, Int.reduceToNat, Int.reduceAdd, Int.reduceSub, Int.reduceMul, Int.reduceNeg, Int.reduceLT, Int.reduceLE, Int.reduceEq, not_true_eq_false, not_false_eq_true, decide_true, decide_false] at h); (try (exfalso; omega))))
      | ((with_reducible apply GoA.sw0))
      | ((with_reducible apply GoA.c); all_goals (intro h; (try simp (disch := omega) only [jJ_lit, jJ_add, jJ_mul, iI_long, jJ_toI, l_lt, l_ge, l_gt, l_le, l_eq, l_ne, jJ_inj, k_ule, k_uln, iI_lit, iI_nat, iI_neg, iI_add, iI_sub, iI_mul, k_lt, k_ge, k_gt, k_le, k_eq, k_ne, k_cl, k_in, iI_inj, k_upe, k_upn, k_wue, k_wun, sI_1, sI_2, sI_3, sI_4, sJ_1, sJ_2, sJ_3, sJ_4, sA_1, sA_2, sA_3, sA_4, sB_1, sB_2, sB_3, sB_4, decide_eq_true_eq, decide_eq_false_iff_not, reduceCtorEq, Int.toNat_natCast, Bool.and_true, mc_tf, List.getD_cons_zero, List.getD_cons_succ, Int.reduceToNat, Int.reduceAdd, Int.reduceSub, Int.reduceMul, Int.reduceNeg, Int.reduceLT, Int.reduceLE, Int.reduceEq, not_true_eq_false, not_false_eq_true, decide_true, decide_false] at h); (try (exfalso; omega))))
    · refine ⟨(g, met + 1, updN bl s (met + 1), kv, tl, kd), sA (sI σ 4503 (iI ((met + 1 : Nat) : Int))) 47 (upd (σ.2.2.1 47) s (iI ((met + 1 : Nat) : Int))), 0, 0, R_int ?_ rfl, Nat.zero_add _, Nat.zero_add _, KM.blk hs h0 hK0 hT hg (by omega) hv (fun q a b => hz q (by omega) b), CU.blk hs hst he hK0 hC (fun _ _ => rfl) (fun q a b => hz q a (by omega)), ?_, Fm.blk, fun t ht => ?_⟩
      · show (upd (σ.2.2.1 47) s (iI ((met + 1 : Nat) : Int)) (iI (s : Int)).toNatClampNeg - 1) * 549 = _
        simp (disch := omega) only [jJ_lit, jJ_add, jJ_mul, iI_long, jJ_toI, l_lt, l_ge, l_gt, l_le, l_eq, l_ne, jJ_inj, k_ule, k_uln, iI_lit, iI_nat, iI_neg, iI_add, iI_sub, iI_mul, k_lt, k_ge, k_gt, k_le, k_eq, k_ne, k_cl, k_in, iI_inj, k_upe, k_upn, k_wue, k_wun, sI_1, sI_2, sI_3, sI_4, sJ_1, sJ_2, sJ_3, sJ_4, sA_1, sA_2, sA_3, sA_4, sB_1, sB_2, sB_3, sB_4, decide_eq_true_eq, decide_eq_false_iff_not, reduceCtorEq, Int.toNat_natCast, Bool.and_true, mc_tf, List.getD_cons_zero, List.getD_cons_succ, Int.reduceToNat, Int.reduceAdd, Int.reduceSub, Int.reduceMul, Int.reduceNeg, Int.reduceLT, Int.reduceLE, Int.reduceEq, not_true_eq_false, not_false_eq_true, decide_true, decide_false, updN_e]
        congr 1
        omega
      · show ¬ updN bl s (met + 1) s = 0
        rw [updN_e]
        omega
      · show updN bl s (met + 1) t = bl t
        exact updN_n (fun q => ht (by rw [q]; exact h0))
    · refine GoP.kal rfl ((hT.mv (σ' := sA (sI σ 4503 (iI ((met + 1 : Nat) : Int))) 47 (upd (σ.2.2.1 47) s (iI ((met + 1 : Nat) : Int)))) rfl).get kd) ?_
      repeat' first
        | (refine GoP.kal rfl ((hT.mv (σ' := sA (sI σ 4503 (iI ((met + 1 : Nat) : Int))) 47 (upd (σ.2.2.1 47) s (iI ((met + 1 : Nat) : Int)))) rfl).get kd) ?_)
        | ((with_reducible apply GoP.k0); exact rfl; exact rfl)
        | ((with_reducible apply GoP.k1); exact rfl; exact rfl; all_goals (intro h; (try simp (disch := omega) only [jJ_lit, jJ_add, jJ_mul, iI_long, jJ_toI, l_lt, l_ge, l_gt, l_le, l_eq, l_ne, jJ_inj, k_ule, k_uln, iI_lit, iI_nat, iI_neg, iI_add, iI_sub, iI_mul, k_lt, k_ge, k_gt, k_le, k_eq, k_ne, k_cl, k_in, iI_inj, k_upe, k_upn, k_wue, k_wun, sI_1, sI_2, sI_3, sI_4, sJ_1, sJ_2, sJ_3, sJ_4, sA_1, sA_2, sA_3, sA_4, sB_1, sB_2, sB_3, sB_4, decide_eq_true_eq, decide_eq_false_iff_not, reduceCtorEq, Int.toNat_natCast, Bool.and_true, mc_tf, List.getD_cons_zero, List.getD_cons_succ, Int.reduceToNat, Int.reduceAdd, Int.reduceSub, Int.reduceMul, Int.reduceNeg, Int.reduceLT, Int.reduceLE, Int.reduceEq, not_true_eq_false, not_false_eq_true, decide_true, decide_false] at h); (try (exfalso; omega))))
        | ((with_reducible apply GoP.k2); exact rfl; exact rfl; focus ((simp (disch := omega) only [jJ_lit, jJ_add, jJ_mul, iI_long, jJ_toI, l_lt, l_ge, l_gt, l_le, l_eq, l_ne, jJ_inj, k_ule, k_uln, iI_lit, iI_nat, iI_neg, iI_add, iI_sub, iI_mul, k_lt, k_ge, k_gt, k_le, k_eq, k_ne, k_cl, k_in, iI_inj, k_upe, k_upn, k_wue, k_wun, sI_1, sI_2, sI_3, sI_4, sJ_1, sJ_2, sJ_3, sJ_4, sA_1, sA_2, sA_3, sA_4, sB_1, sB_2, sB_3, sB_4, decide_eq_true_eq, decide_eq_false_iff_not, reduceCtorEq, Int.toNat_natCast, Bool.and_true, mc_tf, List.getD_cons_zero, List.getD_cons_succ, Int.reduceToNat, Int.reduceAdd, Int.reduceSub, Int.reduceMul, Int.reduceNeg, Int.reduceLT, Int.reduceLE, Int.reduceEq, not_true_eq_false, not_false_eq_true, decide_true, decide_false]) <;> omega))
        | ((with_reducible apply GoP.k3); exact rfl; exact rfl; exact rfl; exact rfl; dsimp only [mc_pad, mc_exp])
        | ((with_reducible apply GoP.k4); exact rfl; exact rfl; exact rfl; try dsimp only [Option.toList, List.cons_append, List.nil_append])
        | ((with_reducible apply GoP.k5); exact rfl; exact rfl)
        | ((with_reducible apply GoA.sw); all_goals (intro h; (try simp (disch := omega) only [jJ_lit, jJ_add, jJ_mul, iI_long, jJ_toI, l_lt, l_ge, l_gt, l_le, l_eq, l_ne, jJ_inj, k_ule, k_uln, iI_lit, iI_nat, iI_neg, iI_add, iI_sub, iI_mul, k_lt, k_ge, k_gt, k_le, k_eq, k_ne, k_cl, k_in, iI_inj, k_upe, k_upn, k_wue, k_wun, sI_1, sI_2, sI_3, sI_4, sJ_1, sJ_2, sJ_3, sJ_4, sA_1, sA_2, sA_3, sA_4, sB_1, sB_2, sB_3, sB_4, decide_eq_true_eq, decide_eq_false_iff_not, reduceCtorEq, Int.toNat_natCast, Bool.and_true, mc_tf, List.getD_cons_zero, List.getD_cons_succ, Int.reduceToNat, Int.reduceAdd, Int.reduceSub, Int.reduceMul, Int.reduceNeg, Int.reduceLT, Int.reduceLE, Int.reduceEq, not_true_eq_false, not_false_eq_true, decide_true, decide_false] at h); (try (exfalso; omega))))
        | ((with_reducible apply GoA.sw0))
        | ((with_reducible apply GoA.c); all_goals (intro h; (try simp (disch := omega) only [jJ_lit, jJ_add, jJ_mul, iI_long, jJ_toI, l_lt, l_ge, l_gt, l_le, l_eq, l_ne, jJ_inj, k_ule, k_uln, iI_lit, iI_nat, iI_neg, iI_add, iI_sub, iI_mul, k_lt, k_ge, k_gt, k_le, k_eq, k_ne, k_cl, k_in, iI_inj, k_upe, k_upn, k_wue, k_wun, sI_1, sI_2, sI_3, sI_4, sJ_1, sJ_2, sJ_3, sJ_4, sA_1, sA_2, sA_3, sA_4, sB_1, sB_2, sB_3, sB_4, decide_eq_true_eq, decide_eq_false_iff_not, reduceCtorEq, Int.toNat_natCast, Bool.and_true, mc_tf, List.getD_cons_zero, List.getD_cons_succ, Int.reduceToNat, Int.reduceAdd, Int.reduceSub, Int.reduceMul, Int.reduceNeg, Int.reduceLT, Int.reduceLE, Int.reduceEq, not_true_eq_false, not_false_eq_true, decide_true, decide_false] at h); (try (exfalso; omega))))
        | ((with_reducible apply EvP.kof); exact rfl; exact rfl; dsimp only [mc_pad, mc_exp])
      have hp : 2 ^ (g + 1) = 2 * 2 ^ g := by rw [Nat.pow_succ, Nat.mul_comm]
      have hlt : g < 5 := by
        rcases Nat.lt_or_ge g 5 with q | q
        · exact q
        · have e5 : 2 ^ g = 32 := by rw [show g = 5 by omega]
          have hmet3 : met + 1 ≤ 64 := by
            rw [hcnt, ← cnt_upd h0 (show ¬ 1 = 0 by decide) 64 hs]
            exact cnt_le _ _
          omega
      have hm : 2 * Int32.ofNat (1098 * 2 ^ g) = iI ((1098 * 2 ^ (g + 1) : Nat) : Int) := by
        rw [iI_lit, iI_nat, iI_mul]
        congr 1
        omega
      have hcm : (iI ((1098 * 2 ^ (g + 1) : Nat) : Int)).toNatClampNeg = 1098 * 2 ^ (g + 1) := by
        rw [k_cl (by omega)]
        omega
      have hneg : ¬ iI ((1098 * 2 ^ (g + 1) : Nat) : Int) < 0 := by
        rw [Int32.lt_iff_toInt_lt, iI_int (by omega), show (0 : Int32).toInt = 0 by decide]
        omega
      have hT1 := hT.mv (σ' := sA (sI σ 4503 (iI ((met + 1 : Nat) : Int))) 47 (upd (σ.2.2.1 47) s (iI ((met + 1 : Nat) : Int)))) rfl
      rw [hm]
      refine GoP.knl rfl (by rw [mkX_length, hT.len]; omega) ⟨hneg, by rw [hcm]; omega⟩ ?_
      rw [hcm, mkX_length]
      show GoP _ _ (_, _, _, mkX w (tl ++ [.inl (1, 1098 * 2 ^ (g + 1), .inr (.inl (fun _ => 0)))]) kd (sA (sI σ 4503 (iI ((met + 1 : Nat) : Int))) 47 (upd (σ.2.2.1 47) s (iI ((met + 1 : Nat) : Int)))), _, _) _
      repeat' first
        | (refine GoP.kal rfl (hT1.get2 kd _) ?_)
        | ((with_reducible apply GoP.k0); exact rfl; exact rfl)
        | ((with_reducible apply GoP.k1); exact rfl; exact rfl; all_goals (intro h; (try simp (disch := omega) only [jJ_lit, jJ_add, jJ_mul, iI_long, jJ_toI, l_lt, l_ge, l_gt, l_le, l_eq, l_ne, jJ_inj, k_ule, k_uln, iI_lit, iI_nat, iI_neg, iI_add, iI_sub, iI_mul, k_lt, k_ge, k_gt, k_le, k_eq, k_ne, k_cl, k_in, iI_inj, k_upe, k_upn, k_wue, k_wun, sI_1, sI_2, sI_3, sI_4, sJ_1, sJ_2, sJ_3, sJ_4, sA_1, sA_2, sA_3, sA_4, sB_1, sB_2, sB_3, sB_4, decide_eq_true_eq, decide_eq_false_iff_not, reduceCtorEq, Int.toNat_natCast, Bool.and_true, mc_tf, List.getD_cons_zero, List.getD_cons_succ, Int.reduceToNat, Int.reduceAdd, Int.reduceSub, Int.reduceMul, Int.reduceNeg, Int.reduceLT, Int.reduceLE, Int.reduceEq, not_true_eq_false, not_false_eq_true, decide_true, decide_false] at h); (try (exfalso; omega))))
        | ((with_reducible apply GoP.k2); exact rfl; exact rfl; focus ((simp (disch := omega) only [jJ_lit, jJ_add, jJ_mul, iI_long, jJ_toI, l_lt, l_ge, l_gt, l_le, l_eq, l_ne, jJ_inj, k_ule, k_uln, iI_lit, iI_nat, iI_neg, iI_add, iI_sub, iI_mul, k_lt, k_ge, k_gt, k_le, k_eq, k_ne, k_cl, k_in, iI_inj, k_upe, k_upn, k_wue, k_wun, sI_1, sI_2, sI_3, sI_4, sJ_1, sJ_2, sJ_3, sJ_4, sA_1, sA_2, sA_3, sA_4, sB_1, sB_2, sB_3, sB_4, decide_eq_true_eq, decide_eq_false_iff_not, reduceCtorEq, Int.toNat_natCast, Bool.and_true, mc_tf, List.getD_cons_zero, List.getD_cons_succ, Int.reduceToNat, Int.reduceAdd, Int.reduceSub, Int.reduceMul, Int.reduceNeg, Int.reduceLT, Int.reduceLE, Int.reduceEq, not_true_eq_false, not_false_eq_true, decide_true, decide_false]) <;> omega))
        | ((with_reducible apply GoP.k3); exact rfl; exact rfl; exact rfl; exact rfl; dsimp only [mc_pad, mc_exp])
        | ((with_reducible apply GoP.k4); exact rfl; exact rfl; exact rfl; try dsimp only [Option.toList, List.cons_append, List.nil_append])
        | ((with_reducible apply GoP.k5); exact rfl; exact rfl)
        | ((with_reducible apply GoA.sw); all_goals (intro h; (try simp (disch := omega) only [jJ_lit, jJ_add, jJ_mul, iI_long, jJ_toI, l_lt, l_ge, l_gt, l_le, l_eq, l_ne, jJ_inj, k_ule, k_uln, iI_lit, iI_nat, iI_neg, iI_add, iI_sub, iI_mul, k_lt, k_ge, k_gt, k_le, k_eq, k_ne, k_cl, k_in, iI_inj, k_upe, k_upn, k_wue, k_wun, sI_1, sI_2, sI_3, sI_4, sJ_1, sJ_2, sJ_3, sJ_4, sA_1, sA_2, sA_3, sA_4, sB_1, sB_2, sB_3, sB_4, decide_eq_true_eq, decide_eq_false_iff_not, reduceCtorEq, Int.toNat_natCast, Bool.and_true, mc_tf, List.getD_cons_zero, List.getD_cons_succ, Int.reduceToNat, Int.reduceAdd, Int.reduceSub, Int.reduceMul, Int.reduceNeg, Int.reduceLT, Int.reduceLE, Int.reduceEq, not_true_eq_false, not_false_eq_true, decide_true, decide_false] at h); (try (exfalso; omega))))
        | ((with_reducible apply GoA.sw0))
        | ((with_reducible apply GoA.c); all_goals (intro h; (try simp (disch := omega) only [jJ_lit, jJ_add, jJ_mul, iI_long, jJ_toI, l_lt, l_ge, l_gt, l_le, l_eq, l_ne, jJ_inj, k_ule, k_uln, iI_lit, iI_nat, iI_neg, iI_add, iI_sub, iI_mul, k_lt, k_ge, k_gt, k_le, k_eq, k_ne, k_cl, k_in, iI_inj, k_upe, k_upn, k_wue, k_wun, sI_1, sI_2, sI_3, sI_4, sJ_1, sJ_2, sJ_3, sJ_4, sA_1, sA_2, sA_3, sA_4, sB_1, sB_2, sB_3, sB_4, decide_eq_true_eq, decide_eq_false_iff_not, reduceCtorEq, Int.toNat_natCast, Bool.and_true, mc_tf, List.getD_cons_zero, List.getD_cons_succ, Int.reduceToNat, Int.reduceAdd, Int.reduceSub, Int.reduceMul, Int.reduceNeg, Int.reduceLT, Int.reduceLE, Int.reduceEq, not_true_eq_false, not_false_eq_true, decide_true, decide_false] at h); (try (exfalso; omega))))
        | ((with_reducible apply EvP.kof); exact rfl; exact rfl; dsimp only [mc_pad, mc_exp])
      have hcl0 : (0 : Int32).toNatClampNeg = 0 := by decide
      have hcg : (Int32.ofNat (1098 * 2 ^ g)).toNatClampNeg = 1098 * 2 ^ g := by
        rw [iI_nat, k_cl (by omega)]
        omega
      have hneg2 : ¬ Int32.ofNat (1098 * 2 ^ g) < 0 := by
        rw [iI_nat, Int32.lt_iff_toInt_lt, iI_int (by omega), show (0 : Int32).toInt = 0 by decide]
        omega
      refine GoP.kcl rfl (hT1.get2 kd _) (mkX_get_last w tl kd _ _) ⟨by decide, by decide, hneg2, by rw [hcl0, hcg]; omega, by rw [hcl0, hcg]; omega⟩ (by decide) ?_
      rw [mkX_set_last, hcl0, hcg]
      repeat' first
        | ((with_reducible apply GoP.k0); exact rfl; exact rfl)
        | ((with_reducible apply GoP.k1); exact rfl; exact rfl; all_goals (intro h; (try simp (disch := omega) only [jJ_lit, jJ_add, jJ_mul, iI_long, jJ_toI, l_lt, l_ge, l_gt, l_le, l_eq, l_ne, jJ_inj, k_ule, k_uln, iI_lit, iI_nat, iI_neg, iI_add, iI_sub, iI_mul, k_lt, k_ge, k_gt, k_le, k_eq, k_ne, k_cl, k_in, iI_inj, k_upe, k_upn, k_wue, k_wun, sI_1, sI_2, sI_3, sI_4, sJ_1, sJ_2, sJ_3, sJ_4, sA_1, sA_2, sA_3, sA_4, sB_1, sB_2, sB_3, sB_4, decide_eq_true_eq, decide_eq_false_iff_not, reduceCtorEq, Int.toNat_natCast, Bool.and_true, mc_tf, List.getD_cons_zero, List.getD_cons_succ, Int.reduceToNat, Int.reduceAdd, Int.reduceSub, Int.reduceMul, Int.reduceNeg, Int.reduceLT, Int.reduceLE, Int.reduceEq, not_true_eq_false, not_false_eq_true, decide_true, decide_false] at h); (try (exfalso; omega))))
        | ((with_reducible apply GoP.k2); exact rfl; exact rfl; focus ((simp (disch := omega) only [jJ_lit, jJ_add, jJ_mul, iI_long, jJ_toI, l_lt, l_ge, l_gt, l_le, l_eq, l_ne, jJ_inj, k_ule, k_uln, iI_lit, iI_nat, iI_neg, iI_add, iI_sub, iI_mul, k_lt, k_ge, k_gt, k_le, k_eq, k_ne, k_cl, k_in, iI_inj, k_upe, k_upn, k_wue, k_wun, sI_1, sI_2, sI_3, sI_4, sJ_1, sJ_2, sJ_3, sJ_4, sA_1, sA_2, sA_3, sA_4, sB_1, sB_2, sB_3, sB_4, decide_eq_true_eq, decide_eq_false_iff_not, reduceCtorEq, Int.toNat_natCast, Bool.and_true, mc_tf, List.getD_cons_zero, List.getD_cons_succ, Int.reduceToNat, Int.reduceAdd, Int.reduceSub, Int.reduceMul, Int.reduceNeg, Int.reduceLT, Int.reduceLE, Int.reduceEq, not_true_eq_false, not_false_eq_true, decide_true, decide_false]) <;> omega))
        | ((with_reducible apply GoP.k3); exact rfl; exact rfl; exact rfl; exact rfl; dsimp only [mc_pad, mc_exp])
        | ((with_reducible apply GoP.k4); exact rfl; exact rfl; exact rfl; try dsimp only [Option.toList, List.cons_append, List.nil_append])
        | ((with_reducible apply GoP.k5); exact rfl; exact rfl)
        | ((with_reducible apply GoA.sw); all_goals (intro h; (try simp (disch := omega) only [jJ_lit, jJ_add, jJ_mul, iI_long, jJ_toI, l_lt, l_ge, l_gt, l_le, l_eq, l_ne, jJ_inj, k_ule, k_uln, iI_lit, iI_nat, iI_neg, iI_add, iI_sub, iI_mul, k_lt, k_ge, k_gt, k_le, k_eq, k_ne, k_cl, k_in, iI_inj, k_upe, k_upn, k_wue, k_wun, sI_1, sI_2, sI_3, sI_4, sJ_1, sJ_2, sJ_3, sJ_4, sA_1, sA_2, sA_3, sA_4, sB_1, sB_2, sB_3, sB_4, decide_eq_true_eq, decide_eq_false_iff_not, reduceCtorEq, Int.toNat_natCast, Bool.and_true, mc_tf, List.getD_cons_zero, List.getD_cons_succ, Int.reduceToNat, Int.reduceAdd, Int.reduceSub, Int.reduceMul, Int.reduceNeg, Int.reduceLT, Int.reduceLE, Int.reduceEq, not_true_eq_false, not_false_eq_true, decide_true, decide_false] at h); (try (exfalso; omega))))
        | ((with_reducible apply GoA.sw0))
        | ((with_reducible apply GoA.c); all_goals (intro h; (try simp (disch := omega) only [jJ_lit, jJ_add, jJ_mul, iI_long, jJ_toI, l_lt, l_ge, l_gt, l_le, l_eq, l_ne, jJ_inj, k_ule, k_uln, iI_lit, iI_nat, iI_neg, iI_add, iI_sub, iI_mul, k_lt, k_ge, k_gt, k_le, k_eq, k_ne, k_cl, k_in, iI_inj, k_upe, k_upn, k_wue, k_wun, sI_1, sI_2, sI_3, sI_4, sJ_1, sJ_2, sJ_3, sJ_4, sA_1, sA_2, sA_3, sA_4, sB_1, sB_2, sB_3, sB_4, decide_eq_true_eq, decide_eq_false_iff_not, reduceCtorEq, Int.toNat_natCast, Bool.and_true, mc_tf, List.getD_cons_zero, List.getD_cons_succ, Int.reduceToNat, Int.reduceAdd, Int.reduceSub, Int.reduceMul, Int.reduceNeg, Int.reduceLT, Int.reduceLE, Int.reduceEq, not_true_eq_false, not_false_eq_true, decide_true, decide_false] at h); (try (exfalso; omega))))
        | ((with_reducible apply EvP.kof); exact rfl; exact rfl; dsimp only [mc_pad, mc_exp])
      refine ⟨(g + 1, met + 1, updN bl s (met + 1), (fun q => if q < 1098 * 2 ^ g then kv q else 0), tl ++ [.inl (1, 1098 * 2 ^ (g + 1), .inr (.inl (va_cpy K (fun _ => 0) 0 0 (1098 * 2 ^ g))))], 65 + tl.length), sA (sI σ 4503 (iI ((met + 1 : Nat) : Int))) 47 (upd (σ.2.2.1 47) s (iI ((met + 1 : Nat) : Int))), _, _, R_int ?_ rfl, ?_, ?_, KM.blk hs h0 hK0 (hT.grow _ σ) (by omega) (by omega) (fun q hq => ?_) (fun q a b => ?_), CU.blk hs hst he hK0 hC (fun q hq => if_pos (by omega)) (fun q a b => ?_), ?_, Fm.blk, fun t ht => ?_⟩
      · show (upd (σ.2.2.1 47) s (iI ((met + 1 : Nat) : Int)) (iI (s : Int)).toNatClampNeg - 1) * 549 = _
        simp (disch := omega) only [jJ_lit, jJ_add, jJ_mul, iI_long, jJ_toI, l_lt, l_ge, l_gt, l_le, l_eq, l_ne, jJ_inj, k_ule, k_uln, iI_lit, iI_nat, iI_neg, iI_add, iI_sub, iI_mul, k_lt, k_ge, k_gt, k_le, k_eq, k_ne, k_cl, k_in, iI_inj, k_upe, k_upn, k_wue, k_wun, sI_1, sI_2, sI_3, sI_4, sJ_1, sJ_2, sJ_3, sJ_4, sA_1, sA_2, sA_3, sA_4, sB_1, sB_2, sB_3, sB_4, decide_eq_true_eq, decide_eq_false_iff_not, reduceCtorEq, Int.toNat_natCast, Bool.and_true, mc_tf, List.getD_cons_zero, List.getD_cons_succ, Int.reduceToNat, Int.reduceAdd, Int.reduceSub, Int.reduceMul, Int.reduceNeg, Int.reduceLT, Int.reduceLE, Int.reduceEq, not_true_eq_false, not_false_eq_true, decide_true, decide_false, updN_e]
        congr 1
        omega
      · show 0 + (0 + 1 + 0) + g = g + 1
        omega
      · show 0 + (0 + 1098 * 2 ^ (g + 1) + 0) + 2196 * 2 ^ g = 2196 * 2 ^ (g + 1)
        omega
      · show va_cpy K (fun _ => 0) 0 0 (1098 * 2 ^ g) q = jJ ((if q < 1098 * 2 ^ g then kv q else 0 : Nat) : Int) ∧ (if q < 1098 * 2 ^ g then kv q else 0) < 9223372036854775808 ∧ (if q < 1098 * 2 ^ g then kv q else 0) / 17592186044416 ≤ st
        unfold va_cpy
        by_cases hq2 : q < 1098 * 2 ^ g
        · rw [if_pos ⟨Nat.zero_le _, by omega⟩, if_pos hq2, Nat.zero_add, Nat.sub_zero]
          exact hv q hq2
        · rw [if_neg (fun z => hq2 (by omega)), if_neg hq2]
          exact ⟨jJ_lit 0, by omega, by omega⟩
      · show (if q < 1098 * 2 ^ g then kv q else 0) = 0
        by_cases hq2 : q < 1098 * 2 ^ g
        · rw [if_pos hq2]
          exact hz q (by omega) hq2
        · exact if_neg hq2
      · show (if q < 1098 * 2 ^ g then kv q else 0) = 0
        by_cases hq2 : q < 1098 * 2 ^ g
        · rw [if_pos hq2]
          exact hz q (by omega) hq2
        · exact if_neg hq2
      · show ¬ updN bl s (met + 1) s = 0
        rw [updN_e]
        omega
      · show updN bl s (met + 1) t = bl t
        exact updN_n (fun q => ht (by rw [q]; exact h0))
  · repeat' first
      | ((with_reducible apply GoP.k0); exact rfl; exact rfl)
      | ((with_reducible apply GoP.k1); exact rfl; exact rfl; all_goals (intro h; (try simp (disch := omega) only [jJ_lit, jJ_add, jJ_mul, iI_long, jJ_toI, l_lt, l_ge, l_gt, l_le, l_eq, l_ne, jJ_inj, k_ule, k_uln, iI_lit, iI_nat, iI_neg, iI_add, iI_sub, iI_mul, k_lt, k_ge, k_gt, k_le, k_eq, k_ne, k_cl, k_in, iI_inj, k_upe, k_upn, k_wue, k_wun, sI_1, sI_2, sI_3, sI_4, sJ_1, sJ_2, sJ_3, sJ_4, sA_1, sA_2, sA_3, sA_4, sB_1, sB_2, sB_3, sB_4, decide_eq_true_eq, decide_eq_false_iff_not, reduceCtorEq, Int.toNat_natCast, Bool.and_true, mc_tf, List.getD_cons_zero, List.getD_cons_succ, Int.reduceToNat, Int.reduceAdd, Int.reduceSub, Int.reduceMul, Int.reduceNeg, Int.reduceLT, Int.reduceLE, Int.reduceEq, not_true_eq_false, not_false_eq_true, decide_true, decide_false, hb] at h); (try (exfalso; omega))))
      | ((with_reducible apply GoP.k2); exact rfl; exact rfl; focus ((simp (disch := omega) only [jJ_lit, jJ_add, jJ_mul, iI_long, jJ_toI, l_lt, l_ge, l_gt, l_le, l_eq, l_ne, jJ_inj, k_ule, k_uln, iI_lit, iI_nat, iI_neg, iI_add, iI_sub, iI_mul, k_lt, k_ge, k_gt, k_le, k_eq, k_ne, k_cl, k_in, iI_inj, k_upe, k_upn, k_wue, k_wun, sI_1, sI_2, sI_3, sI_4, sJ_1, sJ_2, sJ_3, sJ_4, sA_1, sA_2, sA_3, sA_4, sB_1, sB_2, sB_3, sB_4, decide_eq_true_eq, decide_eq_false_iff_not, reduceCtorEq, Int.toNat_natCast, Bool.and_true, mc_tf, List.getD_cons_zero, List.getD_cons_succ, Int.reduceToNat, Int.reduceAdd, Int.reduceSub, Int.reduceMul, Int.reduceNeg, Int.reduceLT, Int.reduceLE, Int.reduceEq, not_true_eq_false, not_false_eq_true, decide_true, decide_false, hb]) <;> omega))
      | ((with_reducible apply GoP.k3); exact rfl; exact rfl; exact rfl; exact rfl; dsimp only [mc_pad, mc_exp])
      | ((with_reducible apply GoP.k4); exact rfl; exact rfl; exact rfl; try dsimp only [Option.toList, List.cons_append, List.nil_append])
      | ((with_reducible apply GoP.k5); exact rfl; exact rfl)
      | ((with_reducible apply GoA.sw); all_goals (intro h; (try simp (disch := omega) only [jJ_lit, jJ_add, jJ_mul, iI_long, jJ_toI, l_lt, l_ge, l_gt, l_le, l_eq, l_ne, jJ_inj, k_ule, k_uln, iI_lit, iI_nat, iI_neg, iI_add, iI_sub, iI_mul, k_lt, k_ge, k_gt, k_le, k_eq, k_ne, k_cl, k_in, iI_inj, k_upe, k_upn, k_wue, k_wun, sI_1, sI_2, sI_3, sI_4, sJ_1, sJ_2, sJ_3, sJ_4, sA_1, sA_2, sA_3, sA_4, sB_1, sB_2, sB_3, sB_4, decide_eq_true_eq, decide_eq_false_iff_not, reduceCtorEq, Int.toNat_natCast, Bool.and_true, mc_tf, List.getD_cons_zero, List.getD_cons_succ, Int.reduceToNat, Int.reduceAdd, Int.reduceSub, Int.reduceMul, Int.reduceNeg, Int.reduceLT, Int.reduceLE, Int.reduceEq, not_true_eq_false, not_false_eq_true, decide_true, decide_false, hb] at h); (try (exfalso; omega))))
      | ((with_reducible apply GoA.sw0))
      | ((with_reducible apply GoA.c); all_goals (intro h; (try simp (disch := omega) only [jJ_lit, jJ_add, jJ_mul, iI_long, jJ_toI, l_lt, l_ge, l_gt, l_le, l_eq, l_ne, jJ_inj, k_ule, k_uln, iI_lit, iI_nat, iI_neg, iI_add, iI_sub, iI_mul, k_lt, k_ge, k_gt, k_le, k_eq, k_ne, k_cl, k_in, iI_inj, k_upe, k_upn, k_wue, k_wun, sI_1, sI_2, sI_3, sI_4, sJ_1, sJ_2, sJ_3, sJ_4, sA_1, sA_2, sA_3, sA_4, sB_1, sB_2, sB_3, sB_4, decide_eq_true_eq, decide_eq_false_iff_not, reduceCtorEq, Int.toNat_natCast, Bool.and_true, mc_tf, List.getD_cons_zero, List.getD_cons_succ, Int.reduceToNat, Int.reduceAdd, Int.reduceSub, Int.reduceMul, Int.reduceNeg, Int.reduceLT, Int.reduceLE, Int.reduceEq, not_true_eq_false, not_false_eq_true, decide_true, decide_false, hb] at h); (try (exfalso; omega))))
      | ((with_reducible apply EvP.kof); exact rfl; exact rfl; dsimp only [mc_pad, mc_exp])
    refine ⟨(g, met, bl, kv, tl, kd), σ, 0, 0, R_int ?_ rfl, Nat.zero_add _, Nat.zero_add _, hK0, hC, h0, Fm.rf, fun _ _ => rfl⟩
    simp (disch := omega) only [jJ_lit, jJ_add, jJ_mul, iI_long, jJ_toI, l_lt, l_ge, l_gt, l_le, l_eq, l_ne, jJ_inj, k_ule, k_uln, iI_lit, iI_nat, iI_neg, iI_add, iI_sub, iI_mul, k_lt, k_ge, k_gt, k_le, k_eq, k_ne, k_cl, k_in, iI_inj, k_upe, k_upn, k_wue, k_wun, sI_1, sI_2, sI_3, sI_4, sJ_1, sJ_2, sJ_3, sJ_4, sA_1, sA_2, sA_3, sA_4, sB_1, sB_2, sB_3, sB_4, decide_eq_true_eq, decide_eq_false_iff_not, reduceCtorEq, Int.toNat_natCast, Bool.and_true, mc_tf, List.getD_cons_zero, List.getD_cons_succ, Int.reduceToNat, Int.reduceAdd, Int.reduceSub, Int.reduceMul, Int.reduceNeg, Int.reduceLT, Int.reduceLE, Int.reduceEq, not_true_eq_false, not_false_eq_true, decide_true, decide_false, hb]
    congr 1
    omega
section
variable {w : Bool} {st d pc p0 nx a b pl : Nat} {M : kM} {σ : wS} {T : List mc_En} {Q : mc_R → Prop} {iv : Int32} {lv : Int64} {sw : List (Int32 × Nat)} {vs : List Value} {ps : List Nat} {L : List (Option Value)} {r : List Value} {c n : Nat}
/-- what is kept is read -/
theorem GoP.kld (hK : KM st M σ) (hpl : pl < mM M * 549) {i : Int32} (hi : i = iI (pl : Int)) (hf : mc_fnd T pc = some (p0, .laload, nx, a, b, iv, lv, sw, vs, ps)) (hG : GoP d T (nx, L, .long (jJ (vM M pl : Int)) :: r, xX w M σ, c, n) Q) : GoP d T (pc, L, .int i :: .ref M.2.2.2.2.2 :: r, xX w M σ, c, n) Q := by
  obtain ⟨K, hT, hv, h1, hmet, hcnt, hbl, hinj, hg, hst2, hst3, hz⟩ := hK
  obtain ⟨hG1, hG2⟩ := pow_le5 hg
  refine GoP.kla hf (hT.get _) ?_ ?_
  · rw [hi]
    exact k_in (by omega)
  · rw [hi, k_cl (by omega), show (pl : Int).toNat = pl by omega, (hv pl (by omega)).1]
    exact hG
/-- something is kept -/
theorem GoP.kst (hK : KM st M σ) (hpl : pl < mM M * 549) {i : Int32} (hi : i = iI (pl : Int)) {x : Int64} {v : Nat} (hx : x = jJ (v : Int)) (hv1 : v < 9223372036854775808) (hv2 : v / 17592186044416 ≤ st) (hf : mc_fnd T pc = some (p0, .lastore, nx, a, b, iv, lv, sw, vs, ps)) (hG : ∀ (M' : kM) (σ' : wS), KM st M' σ' → gM M' = gM M → mM M' = mM M → bM M' = bM M → vM M' = updN (vM M) pl v → Fm σ σ' → GoP d T (nx, L, r, xX w M' σ', c, n) Q) : GoP d T (pc, L, .long x :: .int i :: .ref M.2.2.2.2.2 :: r, xX w M σ, c, n) Q := by
  obtain ⟨K, hT, hv, h1, hmet, hcnt, hbl, hinj, hg, hst2, hst3, hz⟩ := hK
  obtain ⟨hG1, hG2⟩ := pow_le5 hg
  refine GoP.kls hf (hT.get _) ?_ ?_
  · rw [hi]
    exact k_in (by omega)
  · rw [hi, k_cl (by omega), show (pl : Int).toNat = pl by omega, hx]
    obtain ⟨tl', σ', e1, e2, e3, e4, e5, e6⟩ := hT.set (w := w) (vp_updL K pl (jJ (v : Int)))
    show GoP d T (nx, L, r, (mkX w M.2.2.2.2.1 M.2.2.2.2.2 σ).set M.2.2.2.2.2 _, c, n) Q
    rw [e1]
    refine hG (gM M, mM M, bM M, updN (vM M) pl v, tl', M.2.2.2.2.2) σ' ⟨_, e2, fun q hq => ?_, ?_, hmet, hcnt, ?_, hinj, hg, ?_, hst3, fun q a b => ?_⟩ rfl rfl rfl rfl ⟨fun k _ _ => by rw [e3], e4, fun k _ => by rw [e5], e6⟩
    · show vp_updL K pl (jJ (v : Int)) q = jJ (updN (vM M) pl v q : Int) ∧ updN (vM M) pl v q < 9223372036854775808 ∧ updN (vM M) pl v q / 17592186044416 ≤ st
      by_cases hqp : q = pl
      · rw [k_ule hqp, hqp, updN_e]
        exact ⟨rfl, hv1, hv2⟩
      · rw [k_uln hqp, updN_n hqp]
        exact hv q hq
    · rw [e3]
      exact h1
    · rw [e5]
      exact hbl
    · rw [e4]
      exact hst2
    · show updN (vM M) pl v q = 0
      have a : mM M * 549 ≤ q := a
      rw [updN_n (by omega)]
      exact hz q a b
theorem CU.put {T : tT} {p : Nat} {c : Nat → Nat} {e s i room wv : Nat} {M' : kM} (hK : KM st M σ) (hC : CU T p c e st M) (he : e ≤ 9) (hi : i < e) (hr : room ≤ 60) (hs : s < 64) (hb : ¬ bM M s = 0) (hw : wv < 17592186044416) (hva : (wv : Int) = va T p c (e - i) i room (s % 32) (s / 32)) (e1 : bM M' = bM M) (e2 : vM M' = updN (vM M) ((bM M s - 1) * 549 + (i * 61 + room)) (st * 17592186044416 + wv)) : CU T p c e st M' := by
  obtain ⟨K, hT, hv, h1, hmet, hcnt, hbl, hinj, hg, hst2, hst3, hz⟩ := hK
  intro i' s' room' hi' hs' hr' hb' hq
  rw [e1] at hb'
  rw [e1, e2] at hq ⊢
  by_cases hpl : (bM M s' - 1) * 549 + (i' * 61 + room') = (bM M s - 1) * 549 + (i * 61 + room)
  · obtain ⟨x, hx⟩ : ∃ x, bM M s' = x + 1 := ⟨bM M s' - 1, by omega⟩
    obtain ⟨y, hy⟩ : ∃ y, bM M s = y + 1 := ⟨bM M s - 1, by omega⟩
    rw [hpl, updN_e, show (st * 17592186044416 + wv) % 17592186044416 = wv by omega, hva]
    rw [hx, hy] at hpl
    have hxy : x = y := by omega
    have hss : s' = s := hinj s' s hs' hs (by omega) hb'
    have hii : i' = i := by omega
    have hrr : room' = room := by omega
    rw [hss, hii, hrr]
  · rw [updN_n hpl] at hq ⊢
    exact hC i' s' room' hi' hs' hr' hb' hq
end
theorem jJ_and (a b : Nat) : jJ (a : Int) &&& jJ (b : Int) = jJ ((a &&& b : Nat) : Int) := by
  refine Int64.toBitVec.inj ?_
  show BitVec.ofInt 64 (a : Int) &&& BitVec.ofInt 64 (b : Int) = BitVec.ofInt 64 ((a &&& b : Nat) : Int)
  rw [BitVec.ofInt_natCast, BitVec.ofInt_natCast, BitVec.ofInt_natCast, BitVec.ofNat_and]
theorem jJ_or (a b : Nat) : jJ (a : Int) ||| jJ (b : Int) = jJ ((a ||| b : Nat) : Int) := by
  refine Int64.toBitVec.inj ?_
  show BitVec.ofInt 64 (a : Int) ||| BitVec.ofInt 64 (b : Int) = BitVec.ofInt 64 ((a ||| b : Nat) : Int)
  rw [BitVec.ofInt_natCast, BitVec.ofInt_natCast, BitVec.ofInt_natCast, BitVec.ofNat_or]
theorem kb_low {v : Nat} : jJ (v : Int) &&& 17592186044415 = jJ ((v % 17592186044416 : Nat) : Int) := by
  rw [show (17592186044415 : Int64) = jJ ((17592186044415 : Nat) : Int) from jJ_lit _, jJ_and]
  rw [show (17592186044415 : Nat) = 2 ^ 44 - 1 from rfl, Nat.and_two_pow_sub_one_eq_mod]
theorem kb_ushr {v : Nat} (h : v < 9223372036854775808) : ((jJ (v : Int)).toUInt64 >>> ((44 : Int32).toInt64.toUInt64 &&& Int64.toUInt64 63)).toInt64 = jJ ((v / 17592186044416 : Nat) : Int) := by
  rw [show ((44 : Int32).toInt64.toUInt64 &&& Int64.toUInt64 63) = (44 : UInt64) by decide]
  refine Int64.toBitVec.inj ?_
  show ((jJ (v : Int)).toUInt64 >>> (44 : UInt64)).toBitVec = BitVec.ofInt 64 ((v / 17592186044416 : Nat) : Int)
  rw [UInt64.toBitVec_shiftRight, BitVec.ofInt_natCast]
  refine BitVec.eq_of_toNat_eq ?_
  have e1 : (jJ (v : Int)).toUInt64.toBitVec = BitVec.ofNat 64 v := by
    show BitVec.ofInt 64 (v : Int) = _
    rw [BitVec.ofInt_natCast]
  rw [e1]
  simp [BitVec.toNat_ushiftRight, Nat.shiftRight_eq_div_pow]
  omega
theorem kb_lshl {v : Nat} (h : v < 524288) : jJ (v : Int) <<< ((44 : Int32).toInt64 &&& 63) = jJ ((v * 17592186044416 : Nat) : Int) := by
  rw [show ((44 : Int32).toInt64 &&& 63) = (44 : Int64) by decide]
  refine Int64.toBitVec.inj ?_
  rw [Int64.toBitVec_shiftLeft]
  have e1 : (jJ (v : Int)).toBitVec = BitVec.ofNat 64 v := by
    show BitVec.ofInt 64 (v : Int) = _
    rw [BitVec.ofInt_natCast]
  have e2 : (jJ ((v * 17592186044416 : Nat) : Int)).toBitVec = BitVec.ofNat 64 (v * 17592186044416) := by
    show BitVec.ofInt 64 ((v * 17592186044416 : Nat) : Int) = _
    rw [BitVec.ofInt_natCast]
  rw [e1, e2]
  refine BitVec.eq_of_toNat_eq ?_
  simp [Nat.shiftLeft_eq]
