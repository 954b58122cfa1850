section GQ
variable {d : Nat} {T : List mc_En} {S S' : mc_S} {Q : mc_R → Prop}
theorem GoP.st2 {S1 : mc_S} {r : List (Bool × mc_S)} (hs : mc_step T S = some (.inl ((false, S1) :: (true, S') :: r))) (hg : GoP d T S' Q) : GoP d T S Q := GoP.al hs rfl hg
/-- into the callee: no contract -/
theorem GoP.enter {y mL pc' c' n' : Nat} {L' : List (Option Value)} {st' : List Value} {h' : mc_H} {nm : MethodName} {by_ : ByteArray} {rt : Option FieldType} {T2 : List mc_En} {as : List Value} (hs : mc_step T S = some (.inr (.inl (y, as, (pc', L', st', h', c', n'))))) (hy : PM y = (nm, by_, mL, rt, T2)) (hle : Nat.ble (mc_exp as).length mL = true) (hg : GoP d T2 (0, mc_pad mL (mc_exp as), [], h', 0, 0) (fun R1 => GoP (d + 1) T (pc', L', R1.1.toList ++ st', R1.2.1, c' + R1.2.2.1, n' + R1.2.2.2) Q)) : GoP (d + 1) T S Q := by
  obtain ⟨R1, h1, h2⟩ := hg
  exact GoP.call hs (Ev.of hy hle h1) h2
theorem GoP.rt {pc c n : Nat} {L : List (Option Value)} {st : List Value} {h : mc_H} {b : Bool} {v : Option Value} (hs : mc_step T (pc, L, st, h, c, n) = some (.inr (.inr (b, v)))) (hb : b = true) (hQ : Q (v, h, c, n)) : GoP d T (pc, L, st, h, c, n) Q := GoP.ret hs hb hQ
theorem GoP.brt {b : Bool} {S1 S2 : mc_S} (hs : mc_step T S = some (.inl [(b, S1), (true, S2)])) (hb : b = true) (h1 : GoP d T S1 Q) : GoP d T S Q := GoP.br hs (fun _ => h1) (fun h => by rw [hb] at h; cases h)
theorem GoP.brf {b : Bool} {S1 S2 : mc_S} (hs : mc_step T S = some (.inl [(b, S1), (true, S2)])) (hb : b = false) (h2 : GoP d T S2 Q) : GoP d T S Q := GoP.br hs (fun h => by rw [hb] at h; cases h) (fun _ => h2)
theorem GoP.mono {Q2 : mc_R → Prop} (hg : GoP d T S Q) (h : ∀ R, Q R → Q2 R) : GoP d T S Q2 := hg.elim fun R hR => ⟨R, hR.1, h R hR.2⟩
theorem EvP.mono {y : Nat} {as : List Value} {h : mc_H} {Q2 : mc_R → Prop} (hg : EvP d y as h Q) (hQ : ∀ R, Q R → Q2 R) : EvP d y as h Q2 := hg.elim fun R hR => ⟨R, hR.1, hQ R hR.2⟩
theorem EvP.to {d' y : Nat} {as : List Value} {h : mc_H} (hg : EvP d y as h Q) (hd : d ≤ d') : EvP d' y as h Q := hg.elim fun R hR => ⟨R, hR.1.to hd, hR.2⟩
end GQ
/-- a pair by walking the class's method, then the reference's -/
theorem pairI_of {Rel : lw_R} {yX yM : Nat} {as : List Value} (h : ∀ hX hM kc kn, Rel hX hM kc kn → EvP 60 yX (.ref 0 :: as) hX (fun RX => EvP 60 yM (.ref 0 :: as) hM (fun RM => ∃ v, RX.1 = some (.int v) ∧ RM.1 = some (.int v) ∧ RX.2.2.1 ≤ kc ∧ RX.2.2.2 ≤ kn ∧ RM.2.2 = (0, 0) ∧ Rel RX.2.1 RM.2.1 (kc - RX.2.2.1) (kn - RX.2.2.2)))) : pairI Rel yX yM as := by
  intro hX hM kc kn hR
  obtain ⟨⟨vx, hx', cx, nx⟩, eX, ⟨vm, hm', cm, nm⟩, eM, v, e1, e2, e3, e4, e5, e6⟩ := h hX hM kc kn hR
  have e1 : vx = some (.int v) := e1
  have e2 : vm = some (.int v) := e2
  have e5 : (cm, nm) = (0, 0) := e5
  cases e5
  subst e1
  subst e2
  exact ⟨v, hx', hm', cx, nx, eX, eM, e3, e4, e6⟩
theorem wu_self {α : Type} (f : Nat → α) (k : Nat) : wu f k (f k) = f := by
  funext j
  unfold wu
  cases h : Nat.beq j k with
  | true => rw [Nat.eq_of_beq_eq_true h]; rfl
  | false => rfl
theorem sA_self (σ : wS) (k : Nat) : sA σ k (σ.2.2.1 k) = σ := by
  unfold sA
  rw [wu_self]
theorem sB_self (σ : wS) (k : Nat) : sB σ k (σ.2.2.2 k) = σ := by
  unfold sB
  rw [wu_self]
theorem sI_self (σ : wS) (k : Nat) : sI σ k (σ.1 k) = σ := by
  unfold sI
  rw [wu_self]
theorem sJ_self (σ : wS) (k : Nat) : sJ σ k (σ.2.1 k) = σ := by
  unfold sJ
  rw [wu_self]
