/-! Every pair keeps it. -/
section
variable (a1 a2 a3 a4 a5 : Int32)
theorem p_dish : pairI Rel 109 168 [.int a1, .int a2] := by
  refine pairI_s (by decide +kernel) (fun w M σ μ T L b hS => ?_)
  obtain ⟨k, r, t, p, x, m, s, z, B, c, d, i, tt, W⟩ := hS
  obtain ⟨T', t', p', n', h⟩ := pr_dish2 (w := w) (M := M) a1 a2 t x m
  refine ⟨T', L, b, _, h, fun σ' μ' hQ => ?_⟩
  obtain ⟨q1, q2, F, G⟩ := hQ
  exact ⟨k.mv F (by decide), r.fr G (by decide), t', by omega, q1, q2, s.fr F G (by decide), z.fr F (by decide), B.fr F G (by decide), (c.fr F G (by decide)).up n', d.fr n' F G (by decide), i.fr n' F G (by decide), tt.fr F G (by decide), W.fr F G (by decide)⟩
theorem p_dishes : pairI Rel 110 169 [.int a1, .int a2, .int a3] := by
  refine pairI_s (by decide +kernel) (fun w M σ μ T L b hS => ?_)
  obtain ⟨k, r, t, p, x, m, s, z, B, c, d, i, tt, W⟩ := hS
  obtain ⟨T', t', p', n', h⟩ := pr_dishes (w := w) (M := M) a1 a2 a3 t x m s
  refine ⟨T', L, b, _, h, fun σ' μ' hQ => ?_⟩
  obtain ⟨q1, q2, F, G⟩ := hQ
  exact ⟨k.mv F (by decide), r.fr G (by decide), t', by omega, q1, q2, s.fr F G (by decide), z.fr F (by decide), B.fr F G (by decide), (c.fr F G (by decide)).up n', d.fr n' F G (by decide), i.fr n' F G (by decide), tt.fr F G (by decide), W.fr F G (by decide)⟩
/-- a table mended -/
theorem St.m {w : Bool} {M : kM} {σ σ' μ μ' : wS} {T T' : tT} {L : Nat} {b : Nat → Nat} (h : St w M σ μ T L b) (t' : TOk T') (p' : 1 ≤ tP T') (n' : tN T' = tN T) (hQ : Qm T' (tN T) σ μ σ' μ') : St w M σ' μ' T' L b := by
  obtain ⟨k, r, t, p, x, m, s, z, B, c, d, i, tt, W⟩ := h
  obtain ⟨q1, q2, c', F, G⟩ := hQ
  have n'' : tN T ≤ tN T' := Nat.le_of_eq n'.symm
  exact ⟨k.mv F (by decide), r.fr G (by decide), t', p', q1, q2, s.fr F G (by decide), z.fr F (by decide), B.fr F G (by decide), c'.up n'', d.fr n'' F G (by decide), i.fr n'' F G (by decide), tt.fr F G (by decide), W.fr F G (by decide)⟩
theorem p_mend : pairI Rel 112 177 [.int a1, .int a2, .int a3] := by
  refine pairI_s (by decide +kernel) (fun w M σ μ T L b hS => ?_)
  obtain ⟨k, r, t, p, x, m, s, z, B, c, d, i, tt, W⟩ := id hS
  obtain ⟨T', t', p', n', h⟩ := pr_mend (w := w) (M := M) a1 a2 a3 t p x m c
  exact ⟨T', L, b, _, h, fun σ' μ' hQ => hS.m t' p' n' hQ⟩
theorem p_undo : pairI Rel 144 173 [] := by
  refine pairI_s (by decide +kernel) (fun w M σ μ T L b hS => ?_)
  obtain ⟨k, r, t, p, x, m, s, z, B, c, d, i, tt, W⟩ := id hS
  obtain ⟨T', t', p', n', h⟩ := pr_undo (w := w) (M := M) t p x m c
  exact ⟨T', L, b, _, h, fun σ' μ' hQ => hS.m t' p' n' hQ⟩
theorem p_redo : pairI Rel 145 174 [] := by
  refine pairI_s (by decide +kernel) (fun w M σ μ T L b hS => ?_)
  obtain ⟨k, r, t, p, x, m, s, z, B, c, d, i, tt, W⟩ := id hS
  obtain ⟨T', t', p', n', h⟩ := pr_redo (w := w) (M := M) t p x m c
  exact ⟨T', L, b, _, h, fun σ' μ' hQ => hS.m t' p' n' hQ⟩
/-- nothing changed -/
theorem pairI_id {yX yM : Nat} {as : List Value} (hr : mc_ri (PM yX).2.2.2.2 = true) (h : ∀ w M σ μ T L b, St w M σ μ T L b → pS yX yM as w M σ μ (fun σ' μ' => σ' = σ ∧ μ' = μ)) : pairI Rel yX yM as := by
  refine pairI_s hr (fun w M σ μ T L b hS => ⟨T, L, b, _, h w M σ μ T L b hS, fun σ' μ' hQ => ?_⟩)
  obtain ⟨rfl, rfl⟩ := hQ
  exact hS
theorem p_of : pairI Rel 113 178 [.int a1, .int a2] := by
  refine pairI_id (by decide +kernel) (fun w M σ μ T L b hS => ?_)
  obtain ⟨k, r, t, p, x, m, s, z, B, c, d, i, tt, W⟩ := hS
  exact pr_of a1 a2 t x m
theorem p_led : pairI Rel 141 245 [.int a1] := by
  refine pairI_id (by decide +kernel) (fun w M σ μ T L b hS => ?_)
  obtain ⟨k, r, t, p, x, m, s, z, B, c, d, i, tt, W⟩ := hS
  exact pr_led a1 (x.2.1.trans m.2.1.symm) d
theorem p_taken : pairI Rel 154 274 [.int a1, .int a2] := by
  refine pairI_id (by decide +kernel) (fun w M σ μ T L b hS => ?_)
  obtain ⟨k, r, t, p, x, m, s, z, B, c, d, i, tt, W⟩ := hS
  exact pr_taken a1 a2 s B
theorem I_B.num {σ μ : wS} (h : I_B σ μ) : σ.1 5402 = μ.1 48 ∧ σ.1 5403 = μ.1 50 ∧ ∃ nb : Nat, nb ≤ 50 ∧ σ.1 5402 = Int32.ofNat nb := by
  obtain ⟨⟨nb, h1, h2, h3, -⟩, r, h4, h5, h6, -⟩ := h
  exact ⟨h2.trans h3.symm, h5.trans h6.symm, nb, h1, h2⟩
theorem p_count : pairI Rel 155 266 [.int a1] := by
  refine pairI_id (by decide +kernel) (fun w M σ μ T L b hS => ?_)
  obtain ⟨k, r, t, p, x, m, s, z, B, c, d, i, tt, W⟩ := hS
  obtain ⟨dn, un, nu, wh, wa, be, c1, ⟨c2, c3⟩, c4⟩ := c
  exact pr_count a1 t x m (tt.2.1.trans tt.2.2.1.symm) (c2.trans c3.symm) B.num.1 B.num.2.1
theorem p_trace : pairI Rel 148 251 [.int a1] := by
  refine pairI_id (by decide +kernel) (fun w M σ μ T L b hS => ?_)
  obtain ⟨k, r, t, p, x, m, s, z, B, c, d, i, tt, W⟩ := hS
  exact pS_I (pr_trace a1 w _ _ σ μ B)
theorem p_element : pairL Rel 152 272 [.int a1, .int a2] := by
  refine pairL_id (fun w M σ μ T L b hS => ?_)
  obtain ⟨k, r, t, p, x, m, s, z, B, c, d, i, tt, W⟩ := hS
  exact pr_element a1 a2 w _ _ σ μ s
theorem p_feed : pairI Rel 114 179 [.int a1] := by
  refine pairI_s (by decide +kernel) (fun w M σ μ T L b hS => ?_)
  obtain ⟨k, r, t, p, x, m, s, z, B, c, d, i, tt, W⟩ := hS
  obtain ⟨L', b', h⟩ := pr_feed (w := w) (M := M) a1 tt
  refine ⟨T, L', b', _, h, fun σ' μ' hQ => ?_⟩
  obtain ⟨q1, F, G⟩ := hQ
  exact ⟨k.mv F (by decide), r.fr G (by decide), t, p, x.fr F (by decide), m.fr G (by decide), s.fr F G (by decide), z.fr F (by decide), B.fr F G (by decide), c.fr F G (by decide), d.fr (Nat.le_refl _) F G (by decide), i.fr (Nat.le_refl _) F G (by decide), q1, W.fr F G (by decide)⟩
theorem p_law : pairI Rel 115 197 [] := by
  refine pairI_n (by decide +kernel) (fun w M σ μ T L b hS => ?_)
  obtain ⟨k, r, t, p, x, m, s, z, B, c, d, i, tt, W⟩ := hS
  refine ⟨T, 0, b, EvP.mono (pr_law (M := M) tt W) (fun RX hRX => EvP.mono hRX (fun RM hRM => ?_))⟩
  obtain ⟨v, w', σ', μ', e1, e2, q1, q2, F, G⟩ := hRM
  exact ⟨v, w', σ', μ', e1, e2, k.mv F (by decide), r.fr G (by decide), t, p, x.fr F (by decide), m.fr G (by decide), s.fr F G (by decide), z.fr F (by decide), B.fr F G (by decide), c.fr F G (by decide), d.fr (Nat.le_refl _) F G (by decide), i.fr (Nat.le_refl _) F G (by decide), q1, q2⟩
/-- a go changed -/
theorem St.d {w : Bool} {M : kM} {σ σ' μ μ' : wS} {T : tT} {L : Nat} {b : Nat → Nat} (h : St w M σ μ T L b) (d' : I_D (tN T) σ' μ') (F : Fr deI [] [] [] σ σ') (G : Fr [] [] [24, 25, 26, 27] [] μ μ') : St w M σ' μ' T L b := by
  obtain ⟨k, r, t, p, x, m, s, z, B, c, d, i, tt, W⟩ := h
  exact ⟨k.mv F (by decide), r.fr G (by decide), t, p, x.fr F (by decide), m.fr G (by decide), s.fr F G (by decide), z.fr F (by decide), B.fr F G (by decide), c.fr F G (by decide), d', i.fr (Nat.le_refl _) F G (by decide), tt.fr F G (by decide), W.fr F G (by decide)⟩
theorem p_end : pairI Rel 140 244 [] := by
  refine pairI_s (by decide +kernel) (fun w M σ μ T L b hS => ?_)
  obtain ⟨k, r, t, p, x, m, s, z, B, c, d, i, tt, W⟩ := id hS
  exact ⟨T, L, b, _, pr_end d, fun σ' μ' hQ => hS.d hQ.1 hQ.2.1 hQ.2.2⟩
theorem p_goOn : pairI Rel 139 243 [] := by
  refine pairI_s (by decide +kernel) (fun w M σ μ T L b hS => ?_)
  obtain ⟨k, r, t, p, x, m, s, z, B, c, d, i, tt, W⟩ := id hS
  exact ⟨T, L, b, _, pr_goOn t.1 x.1 m.1 d, fun σ' μ' hQ => hS.d hQ.1 hQ.2.1 hQ.2.2⟩
theorem p_image : pairI Rel 142 246 [] := by
  refine pairI_s (by decide +kernel) (fun w M σ μ T L b hS => ?_)
  obtain ⟨k, r, t, p, x, m, s, z, B, c, d, i, tt, W⟩ := hS
  refine ⟨T, L, b, _, pr_image t x m d, fun σ' μ' hQ => ?_⟩
  obtain ⟨q1, F, G⟩ := hQ
  exact ⟨k.mv F (by decide), r.fr G (by decide), t, p, x.fr F (by decide), m.fr G (by decide), s.fr F G (by decide), z.fr F (by decide), B.fr F G (by decide), c.fr F G (by decide), d.fr (Nat.le_refl _) F G (by decide), q1, tt.fr F G (by decide), W.fr F G (by decide)⟩
theorem p_back : pairI Rel 143 247 [] := by
  refine pairI_s (by decide +kernel) (fun w M σ μ T L b hS => ?_)
  obtain ⟨k, r, t, p, x, m, s, z, B, c, d, i, tt, W⟩ := hS
  obtain ⟨T', t', n', p', h⟩ := pr_back (w := w) (M := M) t x m d i
  refine ⟨T', L, b, _, h, fun σ' μ' hQ => ?_⟩
  obtain ⟨q1, q2, q3, F, G⟩ := hQ
  have n'' : tN T ≤ tN T' := Nat.le_of_eq n'.symm
  exact ⟨k.mv F (by decide), r.fr G (by decide), t', by omega, q1, q2, s.fr F G (by decide), z.fr F (by decide), B.fr F G (by decide), (c.fr F G (by decide)).up n'', DD.up q3 n'', i.fr n'' F G (by decide), tt.fr F G (by decide), W.fr F G (by decide)⟩
theorem p_take : pairI Rel 138 242 [] := by
  refine pairI_s (by decide +kernel) (fun w M σ μ T L b hS => ?_)
  obtain ⟨k, r, t, p, x, m, s, z, B, c, d, i, tt, W⟩ := hS
  obtain ⟨T', t', n', p', h⟩ := pr_take (w := w) (M := M) t x m d
  refine ⟨T', L, b, _, h, fun σ' μ' hQ => ?_⟩
  obtain ⟨q1, q2, q3, F, G⟩ := hQ
  have n'' : tN T ≤ tN T' := Nat.le_of_eq n'.symm
  exact ⟨k.mv F (by decide), r.fr G (by decide), t', by omega, q1, q2, s.fr F G (by decide), z.fr F (by decide), B.fr F G (by decide), (c.fr F G (by decide)).up n'', DD.up q3 n'', i.fr n'' F G (by decide), tt.fr F G (by decide), W.fr F G (by decide)⟩
theorem p_body : pairI Rel 146 252 [.int a1] := by
  refine pairI_s (by decide +kernel) (fun w M σ μ T L b hS => ?_)
  obtain ⟨k, r, t, p, x, m, s, z, B, c, d, i, tt, W⟩ := hS
  refine ⟨T, L, b, _, pS_I (pr_body a1 w _ _ σ μ B s), fun σ' μ' hQ => ?_⟩
  obtain ⟨⟨f, y, e1⟩, ⟨f', y', e2⟩, q1, q2⟩ := hQ
  have F : Fr [5402] [] [55] [] σ σ' := by
    rw [e1]
    exact (Fr.sA (by decide)).tr (Fr.sI (by decide))
  have G : Fr [48] [] [30] [] μ μ' := by
    rw [e2]
    exact (Fr.sA (by decide)).tr (Fr.sI (by decide))
  exact ⟨k.mv F (by decide), r.fr G (by decide), t, p, x.fr F (by decide), m.fr G (by decide), q2, z.fr F (by decide), q1, c.fr F G (by decide), d.fr (Nat.le_refl _) F G (by decide), i.fr (Nat.le_refl _) F G (by decide), tt.fr F G (by decide), W.fr F G (by decide)⟩
theorem p_act : pairI Rel 147 265 [.int a1, .int a2, .int a3] := by
  refine pairI_s (by decide +kernel) (fun w M σ μ T L b hS => ?_)
  obtain ⟨k, r, t, p, x, m, s, z, B, c, d, i, tt, W⟩ := hS
  refine ⟨T, L, b, _, pr_act a1 a2 a3 B, fun σ' μ' hQ => ?_⟩
  obtain ⟨q1, F, G⟩ := hQ
  exact ⟨k.mv F (by decide), r.fr G (by decide), t, p, x.fr F (by decide), m.fr G (by decide), s.fr F G (by decide), z.fr F (by decide), q1, c.fr F G (by decide), d.fr (Nat.le_refl _) F G (by decide), i.fr (Nat.le_refl _) F G (by decide), tt.fr F G (by decide), W.fr F G (by decide)⟩
/-- shelves changed -/
theorem St.s {w : Bool} {M : kM} {σ σ' μ μ' : wS} {T : tT} {L : Nat} {b : Nat → Nat} (h : St w M σ μ T L b) (s' : I_S σ' μ') (z' : I_Z σ → I_Z σ') (F : Fr [] [] [58, 59, 60, 61] [62] σ σ') (G : Fr [] [] [32, 33] [34, 35] μ μ') : St w M σ' μ' T L b := by
  obtain ⟨k, r, t, p, x, m, s, z, B, c, d, i, tt, W⟩ := h
  exact ⟨k.mv F (by decide), r.fr G (by decide), t, p, x.fr F (by decide), m.fr G (by decide), s', z' z, B.fr F G (by decide), c.fr F G (by decide), d.fr (Nat.le_refl _) F G (by decide), i.fr (Nat.le_refl _) F G (by decide), tt.fr F G (by decide), W.fr F G (by decide)⟩
theorem p_keep : pairI Rel 149 268 [.int a1, .int a2] := by
  refine pairI_s (by decide +kernel) (fun w M σ μ T L b hS => ?_)
  obtain ⟨k, r, t, p, x, m, s, z, B, c, d, i, tt, W⟩ := id hS
  refine ⟨T, L, b, _, pS_I (pr_keep2 a1 a2 w _ _ σ μ s B.num.1 B.num.2.2), fun σ' μ' hQ => ?_⟩
  obtain ⟨⟨f, g, e1⟩, ⟨f', e2⟩, q1, q2⟩ := hQ
  refine hS.s q1 q2 ?_ ?_
  · rw [e1]
    exact (Fr.sA (by decide)).tr (Fr.sA (by decide))
  · rw [e2]
    exact Fr.sA (by decide)
theorem p_row : pairI Rel 150 269 [.int a1, .int a2, .int a3] := by
  refine pairI_s (by decide +kernel) (fun w M σ μ T L b hS => ?_)
  obtain ⟨k, r, t, p, x, m, s, z, B, c, d, i, tt, W⟩ := id hS
  exact ⟨T, L, b, _, pr_row a1 a2 a3 s, fun σ' μ' hQ => hS.s hQ.1 hQ.2.1 (hQ.2.2.1.up (by decide)) (hQ.2.2.2.up (by decide))⟩
theorem p_put (v : Int64) : pairI Rel 151 271 [.int a1, .int a2, .long v] := by
  refine pairI_s (by decide +kernel) (fun w M σ μ T L b hS => ?_)
  obtain ⟨k, r, t, p, x, m, s, z, B, c, d, i, tt, W⟩ := id hS
  refine ⟨T, L, b, _, pS_I (pr_put2 a1 a2 v s), fun σ' μ' hQ => ?_⟩
  obtain ⟨f, g, e1, e2, q1, q2⟩ := hQ
  refine hS.s q1 q2 ?_ ?_
  · rw [e1]
    exact Fr.sB (by decide)
  · rw [e2]
    exact Fr.sB (by decide)
theorem p_shift : pairI Rel 153 273 [.int a1, .int a2, .int a3, .int a4, .int a5] := by
  refine pairI_s (by decide +kernel) (fun w M σ μ T L b hS => ?_)
  obtain ⟨k, r, t, p, x, m, s, z, B, c, d, i, tt, W⟩ := id hS
  exact ⟨T, L, b, _, pr_shift a1 a2 a3 a4 a5 s, fun σ' μ' hQ => hS.s hQ.1 hQ.2.1 (hQ.2.2.1.up (by decide)) (hQ.2.2.2.up (by decide))⟩
/-- those that only think -/
theorem St.k {w : Bool} {M : kM} {σ μ : wS} {T : tT} {L : Nat} {b : Nat → Nat} (h : St w M σ μ T L b) : TOk T ∧ TX T σ ∧ TM T μ ∧ KR M σ ∧ RR μ ∧ I_S σ μ ∧ I_Z σ ∧ ∃ Lv, pV Lv w σ ∧ pVM Lv μ := by
  obtain ⟨k, r, t, p, x, m, s, z, B, c, d, i, tt, W⟩ := h
  exact ⟨t, x, m, k, r, s, z, I_W.vs W⟩
theorem p_best : pairI Rel 117 211 [.int a1] := pairI_q (by decide +kernel) (fun w M σ μ T L b hS => by
  obtain ⟨t, x, m, k, r, s, z, Lv, v1, v2⟩ := hS.k
  exact pr_best a1 t x m k r v1 v2)
theorem p_sight : pairI Rel 118 212 [.int a1, .int a2] := pairI_q (by decide +kernel) (fun w M σ μ T L b hS => by
  obtain ⟨t, x, m, k, r, s, z, Lv, v1, v2⟩ := hS.k
  exact pr_sight a1 a2 t x m k r)
theorem p_byLaw : pairI Rel 119 213 [.int a1] := pairI_q (by decide +kernel) (fun w M σ μ T L b hS => by
  obtain ⟨t, x, m, k, r, s, z, Lv, v1, v2⟩ := hS.k
  exact pr_byLaw a1 t x m k r v1 v2)
theorem p_mean : pairL Rel 120 218 [.int a1] := pairL_q (by decide +kernel) (fun w M σ μ T L b hS => by
  obtain ⟨t, x, m, k, r, s, z, Lv, v1, v2⟩ := hS.k
  exact pr_mean a1 t x m k r)
theorem p_left : pairI Rel 121 225 [.int a1, .int a2] := pairI_q (by decide +kernel) (fun w M σ μ T L b hS => by
  obtain ⟨t, x, m, k, r, s, z, Lv, v1, v2⟩ := hS.k
  exact pr_left a1 a2 t x m k r v1 v2 s (I_Z.bz z))
theorem p_after : pairI Rel 122 226 [.int a1, .int a2] := pairI_q (by decide +kernel) (fun w M σ μ T L b hS => by
  obtain ⟨t, x, m, k, r, s, z, Lv, v1, v2⟩ := hS.k
  exact pr_after a1 a2 t x m k r v1 v2 s (I_Z.bz z))
theorem p_gone : pairI Rel 126 229 [.int a1] := pairI_q (by decide +kernel) (fun w M σ μ T L b hS => by
  obtain ⟨t, x, m, k, r, s, z, Lv, v1, v2⟩ := hS.k
  exact pr_gone a1 t x m k r v1 v2)
theorem p_lay : pairI Rel 128 231 [.int a1, .int a2] := pairI_q (by decide +kernel) (fun w M σ μ T L b hS => by
  obtain ⟨t, x, m, k, r, s, z, Lv, v1, v2⟩ := hS.k
  exact pr_lay a1 a2 t x m k r v1 v2)
theorem p_small : pairI Rel 129 232 [.int a1, .int a2] := pairI_q (by decide +kernel) (fun w M σ μ T L b hS => by
  obtain ⟨t, x, m, k, r, s, z, Lv, v1, v2⟩ := hS.k
  exact pr_small a1 a2 t x m k r v1 v2)
theorem p_offers : pairL Rel 130 234 [.int a1, .int a2, .int a3] := pairL_q (by decide +kernel) (fun w M σ μ T L b hS => by
  obtain ⟨t, x, m, k, r, s, z, Lv, v1, v2⟩ := hS.k
  exact pr_offers a1 a2 a3 k r m)
theorem p_stop : pairI Rel 131 235 [.int a1] := pairI_q (by decide +kernel) (fun w M σ μ T L b hS => by
  obtain ⟨t, x, m, k, r, s, z, Lv, v1, v2⟩ := hS.k
  exact pr_stop a1 k r m)
theorem p_judge : pairI Rel 132 237 [.int a1] := pairI_q (by decide +kernel) (fun w M σ μ T L b hS => by
  obtain ⟨t, x, m, k, r, s, z, Lv, v1, v2⟩ := hS.k
  exact pr_judge a1 t x m k r s)
theorem p_ways : pairI Rel 135 238 [.int a1] := pairI_q (by decide +kernel) (fun w M σ μ T L b hS => by
  obtain ⟨t, x, m, k, r, s, z, Lv, v1, v2⟩ := hS.k
  exact pr_ways a1 t x m k r v1 v2 s)
theorem p_drawn : pairI Rel 137 239 [.int a1, .int a2, .int a3] := pairI_q (by decide +kernel) (fun w M σ μ T L b hS => by
  obtain ⟨t, x, m, k, r, s, z, Lv, v1, v2⟩ := hS.k
  exact pr_drawn a1 a2 a3 t x m k r v1 v2)
end
theorem rel_pairs : law_P Rel := fun a1 a2 a3 a4 a5 => ⟨p_dish a1 a2, p_dishes a1 a2 a3, p_mend a1 a2 a3, p_of a1 a2, p_feed a1, p_law, p_best a1, p_sight a1 a2, p_byLaw a1, p_mean a1, p_left a1 a2, p_after a1 a2, p_gone a1, p_lay a1 a2, p_small a1 a2, p_offers a1 a2 a3, p_stop a1, p_judge a1, p_ways a1, p_drawn a1 a2 a3, p_take, p_goOn, p_end, p_led a1, p_image, p_back, p_undo, p_redo, p_body a1, p_act a1 a2 a3, p_trace a1, p_keep a1 a2, p_row a1 a2 a3, p_put a1 a2 _, p_element a1 a2, p_shift a1 a2 a3 a4 a5, p_taken a1 a2, p_count a1⟩
