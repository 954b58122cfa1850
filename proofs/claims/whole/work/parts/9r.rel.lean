/-! What both hold between two calls. -/
def mc_ri (T : List mc_En) : Bool := T.all (fun en => match en.2.1 with | .lreturn => false | .areturn => false | .return_ => false | _ => true)
def mc_rl (T : List mc_En) : Bool := T.all (fun en => match en.2.1 with | .ireturn => false | .areturn => false | .return_ => false | _ => true)
/-- what a run answers with, an entry of its table gave -/
theorem mc_ex_ret {call : Nat → List Value → mc_H → Option mc_R} {T : List mc_En} : ∀ (g : Nat) (S : mc_S) (R : mc_R), mc_ex call T g S = some R → ∃ (en : mc_En) (L : List (Option Value)) (st : List Value) (hp : mc_H) (c n : Nat) (b : Bool), en ∈ T ∧ mc_stepI en.2.1 en.2.2.1 en.2.2.2.1 en.2.2.2.2.1 en.2.2.2.2.2.1 en.2.2.2.2.2.2.1 en.2.2.2.2.2.2.2.1 en.2.2.2.2.2.2.2.2.1 L st hp c n = some (.inr (.inr (b, R.1)))
  | 0, _, _, h => by cases h
  | g + 1, (pc, L, st, hp, c, n), R, h => by
    unfold mc_ex at h
    cases hs : mc_step T (pc, L, st, hp, c, n) with
    | none => rw [hs] at h; cases h
    | some o =>
      rw [hs] at h
      rcases o with alts | ⟨y2, as, S'⟩ | ⟨b, v⟩
      · dsimp only at h
        cases ha : mc_alt alts with
        | none => rw [ha] at h; cases h
        | some S' => rw [ha] at h; exact mc_ex_ret g S' R h
      · dsimp only at h
        cases hq : call y2 as (mc_heap S') with
        | none => rw [hq] at h; cases h
        | some R1 =>
          obtain ⟨v1, h1, c1, n1⟩ := R1
          rw [hq] at h
          exact mc_ex_ret g _ R h
      · obtain ⟨ins, nx, a, b2, iv, lv, sw, vs, ps, hmem, hsI⟩ := mc_step_inv hs
        have hf : mc_fin b v (pc, L, st, hp, c, n) = some R := h
        have e : R.1 = v := by
          unfold mc_fin at hf
          cases b
          · cases hf
          · cases hf
            rfl
        rw [e]
        exact ⟨_, L, st, hp, c, n, b, hmem, hsI⟩
theorem Ev.int {d y : Nat} {as : List Value} {hp : mc_H} {R : mc_R} (hr : mc_ri (PM y).2.2.2.2 = true) (e : Ev d y as hp R) : ∃ x, R.1 = some (.int x) := by
  obtain ⟨F, hF⟩ := e
  have h := hF F (Nat.le_refl _)
  cases d with
  | zero => cases h
  | succ d =>
    unfold mc_run at h
    obtain ⟨hle, h⟩ := mc_ble h
    obtain ⟨⟨pc, ins, nx, a, b2, iv, lv, sw, vs, ps⟩, L, st, hp', c, n, b, hmem, hs⟩ := mc_ex_ret _ _ _ h
    have ht := List.all_eq_true.mp hr _ hmem
    dsimp only at hs
    rcases mc_nr_stepI (ins := ins) (nx := nx) (a := a) (b := b2) (iv := iv) (lv := lv) (sw := sw) (vs := vs) (L := L) (st := st) (h := hp') (c := c) (n := n) with hz | hz | hz | hz | hz
    · rw [hs] at hz
      exact hz.elim
    · subst hz
      dsimp only [mc_stepI] at hs
      split at hs
      · split at hs
        · simp only [Option.some.injEq, Sum.inr.injEq, Prod.mk.injEq] at hs
          exact ⟨_, hs.2.symm⟩
        · simp only [Option.some.injEq, Sum.inr.injEq, Prod.mk.injEq] at hs
          exact ⟨_, hs.2.symm⟩
      · cases hs
    · subst hz
      cases ht
    · subst hz
      cases ht
    · subst hz
      cases ht
theorem Ev.long {d y : Nat} {as : List Value} {hp : mc_H} {R : mc_R} (hr : mc_rl (PM y).2.2.2.2 = true) (e : Ev d y as hp R) : ∃ x, R.1 = some (.long x) := by
  obtain ⟨F, hF⟩ := e
  have h := hF F (Nat.le_refl _)
  cases d with
  | zero => cases h
  | succ d =>
    unfold mc_run at h
    obtain ⟨hle, h⟩ := mc_ble h
    obtain ⟨⟨pc, ins, nx, a, b2, iv, lv, sw, vs, ps⟩, L, st, hp', c, n, b, hmem, hs⟩ := mc_ex_ret _ _ _ h
    have ht := List.all_eq_true.mp hr _ hmem
    dsimp only at hs
    rcases mc_nr_stepI (ins := ins) (nx := nx) (a := a) (b := b2) (iv := iv) (lv := lv) (sw := sw) (vs := vs) (L := L) (st := st) (h := hp') (c := c) (n := n) with hz | hz | hz | hz | hz
    · rw [hs] at hz
      exact hz.elim
    · subst hz
      cases ht
    · subst hz
      dsimp only [mc_stepI] at hs
      split at hs
      · simp only [Option.some.injEq, Sum.inr.injEq, Prod.mk.injEq] at hs
        exact ⟨_, hs.2.symm⟩
      · cases hs
    · subst hz
      cases ht
    · subst hz
      cases ht
/-- none of these is among those -/
abbrev no (ks I : List Nat) : Prop := ∀ k ∈ ks, ¬ k ∈ I
section
variable {σ σ' μ μ' : wS} {I J A B I' J' A' B' : List Nat}
theorem RR.fr (h : RR μ) (hF : Fr I J A B μ μ') (c : ¬ 29 ∈ I ∧ ¬ 15 ∈ A) : RR μ' := by
  obtain ⟨run, h⟩ := h
  exact ⟨run, h.fr hF c⟩
theorem I_S.fr (h : I_S σ μ) (hF : Fr I J A B σ σ') (hG : Fr I' J' A' B' μ μ') (c : (no [5402] I ∧ no [58, 59, 60, 61] A ∧ no [62] B) ∧ no [32, 33] A' ∧ no [34] B') : I_S σ' μ' := by
  unfold I_S at h ⊢
  rw [hF.1 5402 (c.1.1 _ (by decide)), hF.2.2.1 58 (c.1.2.1 _ (by decide)), hF.2.2.1 59 (c.1.2.1 _ (by decide)), hF.2.2.1 60 (c.1.2.1 _ (by decide)), hF.2.2.1 61 (c.1.2.1 _ (by decide)), hF.2.2.2 62 (c.1.2.2 _ (by decide)), hG.2.2.1 32 (c.2.1 _ (by decide)), hG.2.2.1 33 (c.2.1 _ (by decide)), hG.2.2.2 34 (c.2.2 _ (by decide))]
  exact h
theorem I_Z.fr (h : I_Z σ) (hF : Fr I J A B σ σ') (c : no [58, 60, 61] A ∧ no [62] B) : I_Z σ' := by
  unfold I_Z at h ⊢
  rw [hF.2.2.1 58 (c.1 _ (by decide)), hF.2.2.1 60 (c.1 _ (by decide)), hF.2.2.1 61 (c.1 _ (by decide)), hF.2.2.2 62 (c.2 _ (by decide))]
  exact h
theorem I_B.fr (h : I_B σ μ) (hF : Fr I J A B σ σ') (hG : Fr I' J' A' B' μ μ') (c : (no [5402, 5403] I ∧ no [55, 56] A) ∧ no [48, 50] I' ∧ no [30, 31] A') : I_B σ' μ' := by
  unfold I_B at h ⊢
  rw [hF.1 5402 (c.1.1 _ (by decide)), hF.1 5403 (c.1.1 _ (by decide)), hF.2.2.1 55 (c.1.2 _ (by decide)), hF.2.2.1 56 (c.1.2 _ (by decide)), hG.1 48 (c.2.1 _ (by decide)), hG.1 50 (c.2.1 _ (by decide)), hG.2.2.1 30 (c.2.2 _ (by decide)), hG.2.2.1 31 (c.2.2 _ (by decide))]
  exact h
theorem I_C.fr {n : Nat} (h : I_C n σ μ) (hF : Fr I J A B σ σ') (hG : Fr I' J' A' B' μ μ') (c : (no [108, 109] I ∧ no [12, 13, 14, 15] A) ∧ no [5, 6] I' ∧ no [3, 4, 5, 6] A') : I_C n σ' μ' := by
  unfold I_C at h ⊢
  rw [hF.1 108 (c.1.1 _ (by decide)), hF.1 109 (c.1.1 _ (by decide)), hF.2.2.1 12 (c.1.2 _ (by decide)), hF.2.2.1 13 (c.1.2 _ (by decide)), hF.2.2.1 14 (c.1.2 _ (by decide)), hF.2.2.1 15 (c.1.2 _ (by decide)), hG.1 5 (c.2.1 _ (by decide)), hG.1 6 (c.2.1 _ (by decide)), hG.2.2.1 3 (c.2.2 _ (by decide)), hG.2.2.1 4 (c.2.2 _ (by decide)), hG.2.2.1 5 (c.2.2 _ (by decide)), hG.2.2.1 6 (c.2.2 _ (by decide))]
  exact h
theorem mem_run {a k : Nat} (h : k < 11) : a + k ∈ [a, a + 1, a + 2, a + 3, a + 4, a + 5, a + 6, a + 7, a + 8, a + 9, a + 10] := by
  simp only [List.mem_cons, List.not_mem_nil, or_false]
  omega
theorem I_D.fr {n n' : Nat} (h : I_D n σ μ) (hn : n ≤ n') (hF : Fr I J A B σ σ') (hG : Fr I' J' A' B' μ μ') (c : no [5000, 5001, 5002, 5003, 5004, 5005, 5006, 5007, 5008, 5009, 5010] I ∧ no [24, 25, 26, 27] A') : I_D n' σ' μ' := by
  refine DD.up (DD.eq (n := n) h (fun k hk => hF.1 (5000 + k) (c.1 _ (mem_run (a := 5000) hk))) (fun k _ => ?_) (fun k _ => ?_) (fun k _ => ?_) (fun k _ => ?_)) hn
  · rw [hG.2.2.1 24 (c.2 _ (by decide))]
  · rw [hG.2.2.1 25 (c.2 _ (by decide))]
  · rw [hG.2.2.1 26 (c.2 _ (by decide))]
  · rw [hG.2.2.1 27 (c.2 _ (by decide))]
theorem I_I.fr {n n' : Nat} (h : I_I n σ μ) (hn : n ≤ n') (hF : Fr I J A B σ σ') (hG : Fr I' J' A' B' μ μ') (c : (no [10, 5200, 5201, 5202, 5203, 5204, 5205, 5206, 5207, 5208, 5209, 5210, 5212] I ∧ no [53] A) ∧ no [45] I' ∧ no [28, 29] A') : I_I n' σ' μ' := by
  refine I_I.up ?_ hn
  rcases h with ⟨h1, h2⟩ | ⟨h1, m, s, h2, h3, h4, h5, h6⟩
  · exact Or.inl ⟨(hF.1 10 (c.1.1 _ (by decide))).trans h1, (hG.1 45 (c.2.1 _ (by decide))).trans h2⟩
  · refine Or.inr ⟨(hF.1 10 (c.1.1 _ (by decide))).trans h1, m, s, h2, (hF.1 5212 (c.1.1 _ (by decide))).trans h3, (hG.1 45 (c.2.1 _ (by decide))).trans h4, ?_, ?_⟩
    · rw [hG.2.2.1 28 (c.2.2 _ (by decide)), hG.2.2.1 29 (c.2.2 _ (by decide))]
      refine h5.eq (fun k hk => hF.1 (5200 + k) (c.1.1 _ ?_)) (fun _ _ => rfl) (fun _ _ => rfl) (fun _ _ => rfl) (fun _ _ => rfl)
      simp only [List.mem_cons, List.not_mem_nil, or_false]
      omega
    · rw [hF.2.2.1 53 (c.1.2 _ (by decide)), hG.2.2.1 29 (c.2.2 _ (by decide))]
      exact h6
theorem I_T.fr {L : Nat} {b : Nat → Nat} (h : I_T σ μ L b) (hF : Fr I J A B σ σ') (hG : Fr I' J' A' B' μ μ') (c : (no [1601] I ∧ no [17] A) ∧ no [12] I' ∧ no [7] A') : I_T σ' μ' L b := by
  unfold I_T at h ⊢
  rw [hF.1 1601 (c.1.1 _ (by decide)), hF.2.2.1 17 (c.1.2 _ (by decide)), hG.1 12 (c.2.1 _ (by decide)), hG.2.2.1 7 (c.2.2 _ (by decide))]
  exact h
theorem I_W.fr {w : Bool} (h : I_W w σ μ) (hF : Fr I J A B σ σ') (hG : Fr I' J' A' B' μ μ') (c : (no [1605, 1806, 2506] I ∧ no [19, 20, 21, 22, 26, 27, 28, 29] A) ∧ no [24] I' ∧ no [8, 9, 10, 11, 12] A') : I_W w σ' μ' := by
  have eA : σ'.2.2.1 (cwA (!w)) = σ.2.2.1 (cwA (!w)) := by cases w <;> exact hF.2.2.1 _ (c.1.2 _ (by decide))
  have eB : σ'.2.2.1 (cwB (!w)) = σ.2.2.1 (cwB (!w)) := by cases w <;> exact hF.2.2.1 _ (c.1.2 _ (by decide))
  have eF : σ'.2.2.1 (cwF (!w)) = σ.2.2.1 (cwF (!w)) := by cases w <;> exact hF.2.2.1 _ (c.1.2 _ (by decide))
  have eE : σ'.2.2.1 (cwE (!w)) = σ.2.2.1 (cwE (!w)) := by cases w <;> exact hF.2.2.1 _ (c.1.2 _ (by decide))
  have eN : σ'.1 (cwN (!w)) = σ.1 (cwN (!w)) := by cases w <;> exact hF.1 _ (c.1.1 _ (by decide))
  unfold I_W at h ⊢
  rw [eA, eB, eF, eE, eN, hF.1 1605 (c.1.1 _ (by decide)), hG.1 24 (c.2.1 _ (by decide)), hG.2.2.1 8 (c.2.2 _ (by decide)), hG.2.2.1 9 (c.2.2 _ (by decide)), hG.2.2.1 10 (c.2.2 _ (by decide)), hG.2.2.1 11 (c.2.2 _ (by decide)), hG.2.2.1 12 (c.2.2 _ (by decide))]
  exact h
end
/-- what holds between two calls -/
def St (w : Bool) (M : kM) (σ μ : wS) (T : tT) (L : Nat) (b : Nat → Nat) : Prop := KR M σ ∧ RR μ ∧ TOk T ∧ 1 ≤ tP T ∧ TX T σ ∧ TM T μ ∧ I_S σ μ ∧ I_Z σ ∧ I_B σ μ ∧ I_C (tN T) σ μ ∧ I_D (tN T) σ μ ∧ I_I (tN T) σ μ ∧ I_T σ μ L b ∧ I_W w σ μ
/-- the two objects, and what may yet be made -/
def Rel : lw_R := fun hX hM kc kn => ∃ (w : Bool) (M : kM) (σ μ : wS) (T : tT) (L : Nat) (b : Nat → Nat), hX = xX w M σ ∧ hM = mkM μ ∧ St w M σ μ T L b ∧ 5 ≤ kc + gM M ∧ 70272 ≤ kn + 2196 * 2 ^ gM M
theorem St.g {w : Bool} {M : kM} {σ μ : wS} {T : tT} {L : Nat} {b : Nat → Nat} (h : St w M σ μ T L b) : gM M ≤ 5 := by
  obtain ⟨⟨st, K, k1, k2, k3, k4, k5, k6, k7, k8, -⟩, -⟩ := h
  exact k8
theorem g_room {g g' cc nn kc kn : Nat} (hg : g' ≤ 5) (e1 : cc + g = g') (e2 : nn + 2196 * 2 ^ g = 2196 * 2 ^ g') (h1 : 5 ≤ kc + g) (h2 : 70272 ≤ kn + 2196 * 2 ^ g) : cc ≤ kc ∧ nn ≤ kn ∧ 5 ≤ kc - cc + g' ∧ 70272 ≤ kn - nn + 2196 * 2 ^ g' := by
  have hp : 2 ^ g' ≤ 2 ^ 5 := Nat.pow_le_pow_right (by decide) hg
  generalize 2 ^ g' = p' at hp e2 ⊢
  generalize 2 ^ g = p at e2 h2
  omega
theorem St.q {w : Bool} {M M' : kM} {σ σ' μ μ' : wS} {T : tT} {L : Nat} {b : Nat → Nat} (h : St w M σ μ T L b) (k : KR M' σ') (r : RR μ') (m : TM T μ') (hF : Fr scI scJ scA scB σ σ') (hG : Fr smI smJ smA [] μ μ') : St w M' σ' μ' T L b := by
  obtain ⟨-, -, t, p, x, -, s, z, B, c, d, i, tt, W⟩ := h
  exact ⟨k, r, t, p, x.fr hF (by decide), m, s.fr hF hG (by decide), z.fr hF (by decide), B.fr hF hG (by decide), c.fr hF hG (by decide), d.fr (Nat.le_refl _) hF hG (by decide), i.fr (Nat.le_refl _) hF hG (by decide), tt.fr hF hG (by decide), W.fr hF hG (by decide)⟩
section
variable {yX yM : Nat} {as : List Value}
theorem pairI_q (hr : mc_ri (PM yX).2.2.2.2 = true) (h : ∀ w M σ μ T L b, St w M σ μ T L b → qV T yX yM as w M σ μ) : pairI Rel yX yM as := by
  rintro hX hM kc kn ⟨w, M, σ, μ, T, L, b, rfl, rfl, hS, h1, h2⟩
  obtain ⟨RX, eX, RM, eM, v, M', σ', μ', cc, nn, rfl, rfl, g1, g2, g3, g4, g5, g6, g7⟩ := h _ _ _ _ _ _ _ hS
  obtain ⟨x, hx⟩ := Ev.int hr eX
  cases hx
  have hS' := hS.q g3 g4 g5 g6 g7
  obtain ⟨r1, r2, r3, r4⟩ := g_room hS'.g g1 g2 h1 h2
  exact ⟨x, _, _, cc, nn, eX, eM, r1, r2, w, M', σ', μ', T, L, b, rfl, rfl, hS', r3, r4⟩
theorem pairL_q (hr : mc_rl (PM yX).2.2.2.2 = true) (h : ∀ w M σ μ T L b, St w M σ μ T L b → qV T yX yM as w M σ μ) : pairL Rel yX yM as := by
  rintro hX hM kc kn ⟨w, M, σ, μ, T, L, b, rfl, rfl, hS, h1, h2⟩
  obtain ⟨RX, eX, RM, eM, v, M', σ', μ', cc, nn, rfl, rfl, g1, g2, g3, g4, g5, g6, g7⟩ := h _ _ _ _ _ _ _ hS
  obtain ⟨x, hx⟩ := Ev.long hr eX
  cases hx
  have hS' := hS.q g3 g4 g5 g6 g7
  obtain ⟨r1, r2, r3, r4⟩ := g_room hS'.g g1 g2 h1 h2
  exact ⟨x, _, _, cc, nn, eX, eM, r1, r2, w, M', σ', μ', T, L, b, rfl, rfl, hS', r3, r4⟩
theorem pairI_n (hr : mc_ri (PM yX).2.2.2.2 = true) (h : ∀ w M σ μ T L b, St w M σ μ T L b → ∃ T' L' b', pN yX yM as w M σ μ (fun w' σ' μ' => St w' M σ' μ' T' L' b')) : pairI Rel yX yM as := by
  rintro hX hM kc kn ⟨w, M, σ, μ, T, L, b, rfl, rfl, hS, h1, h2⟩
  obtain ⟨T', L', b', RX, eX, RM, eM, v, w', σ', μ', rfl, rfl, hS'⟩ := h _ _ _ _ _ _ _ hS
  obtain ⟨x, hx⟩ := Ev.int hr eX
  cases hx
  exact ⟨x, _, _, 0, 0, eX, eM, Nat.zero_le _, Nat.zero_le _, w', M, σ', μ', T', L', b', rfl, rfl, hS', h1, h2⟩
theorem pairI_s (hr : mc_ri (PM yX).2.2.2.2 = true) (h : ∀ w M σ μ T L b, St w M σ μ T L b → ∃ T' L' b' Q, pS yX yM as w M σ μ Q ∧ ∀ σ' μ', Q σ' μ' → St w M σ' μ' T' L' b') : pairI Rel yX yM as := by
  refine pairI_n hr (fun w M σ μ T L b hS => ?_)
  obtain ⟨T', L', b', Q, hQ, hk⟩ := h w M σ μ T L b hS
  refine ⟨T', L', b', EvP.mono hQ (fun RX hRX => EvP.mono hRX (fun RM hRM => ?_))⟩
  obtain ⟨v, σ', μ', e1, e2, e3⟩ := hRM
  exact ⟨v, w, σ', μ', e1, e2, hk _ _ e3⟩
theorem pS_I {w : Bool} {M : kM} {σ μ : wS} {Q : wS → wS → Prop} (h : prI yX yM as w M.2.2.2.2.1 M.2.2.2.2.2 σ μ Q) : pS yX yM as w M σ μ Q := by
  refine EvP.mono h (fun RX hRX => EvP.mono hRX (fun RM hRM => ?_))
  obtain ⟨v, σ', μ', e1, e2, e3⟩ := hRM
  exact ⟨_, σ', μ', e1, e2, e3⟩
theorem pairL_id (h : ∀ w M σ μ T L b, St w M σ μ T L b → prL yX yM as w M.2.2.2.2.1 M.2.2.2.2.2 σ μ (fun σ' μ' => σ' = σ ∧ μ' = μ)) : pairL Rel yX yM as := by
  rintro hX hM kc kn ⟨w, M, σ, μ, T, L, b, rfl, rfl, hS, h1, h2⟩
  obtain ⟨RX, eX, RM, eM, v, σ', μ', rfl, rfl, rfl, rfl⟩ := h _ _ _ _ _ _ _ hS
  exact ⟨v, _, _, 0, 0, eX, eM, Nat.zero_le _, Nat.zero_le _, w, M, _, _, T, L, b, rfl, rfl, hS, h1, h2⟩
end
