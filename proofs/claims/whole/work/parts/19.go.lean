/-! Runs of the small machine, with fuel enough. -/
theorem mc_ex_call {call call' : Nat → List Value → mc_H → Option mc_R} {T : List mc_En} (hc : ∀ y as h R, call y as h = some R → call' y as h = some R) : ∀ (g : Nat) (S : mc_S) (R : mc_R), mc_ex call T g S = some R → mc_ex call' T g S = some R
  | 0, _, _, h => by cases h
  | g + 1, S, R, h => by
    unfold mc_ex at h ⊢
    cases hs : mc_step T S with
    | none => rw [hs] at h; cases h
    | some o =>
      rw [hs] at h
      rcases o with alts | ⟨y2, as, S'⟩ | ⟨b, v⟩
      · dsimp only at h ⊢
        cases ha : mc_alt alts with
        | none => rw [ha] at h; cases h
        | some S' => rw [ha] at h; exact mc_ex_call hc g S' R h
      · dsimp only at h ⊢
        cases hq : call y2 as (mc_heap S') with
        | none => rw [hq] at h; cases h
        | some R1 =>
          rw [hq] at h
          rw [hc _ _ _ _ hq]
          exact mc_ex_call hc g _ R h
      · exact h
theorem mc_run_up {PM : Nat → mc_M} : ∀ (d f y : Nat) (as : List Value) (h : mc_H) (R : mc_R), mc_run PM d f y as h = some R → mc_run PM (d + 1) f y as h = some R
  | 0, _, _, _, _, _, hr => by cases hr
  | d + 1, f, y, as, h, R, hr => by
    unfold mc_run at hr ⊢
    obtain ⟨hle, hr⟩ := mc_ble hr
    have e : Nat.ble (mc_exp as).length (PM y).2.2.1 = true := Nat.ble_eq.mpr hle
    rw [e, cond_true]
    exact mc_ex_call (fun y as h R hq => mc_run_up d f y as h R hq) f _ R hr
/-- a method's run, at the depth d, with fuel enough -/
def Ev (d y : Nat) (as : List Value) (h : mc_H) (R : mc_R) : Prop := ∃ F, ∀ f, F ≤ f → mc_run PM d f y as h = some R
theorem Ev.up {d y : Nat} {as : List Value} {h : mc_H} {R : mc_R} (k : Nat) (hE : Ev d y as h R) : Ev (d + k) y as h R := by
  induction k with
  | zero => exact hE
  | succ k ih =>
    obtain ⟨F, hF⟩ := ih
    exact ⟨F, fun f hf => mc_run_up _ _ _ _ _ _ (hF f hf)⟩
theorem Ev.to {d d' y : Nat} {as : List Value} {h : mc_H} {R : mc_R} (hE : Ev d y as h R) (hd : d ≤ d') : Ev d' y as h R := by
  have := hE.up (d' - d)
  rwa [show d + (d' - d) = d' by omega] at this
def Go (d : Nat) (T : List mc_En) (S : mc_S) (R : mc_R) : Prop := ∃ F, ∀ f, F ≤ f → ∀ g, F ≤ g → mc_ex (mc_run PM d f) T g S = some R
section GO
variable {d : Nat} {T : List mc_En} {S S' : mc_S} {R : mc_R}
theorem Go.al {alts : List (Bool × mc_S)} (hs : mc_step T S = some (.inl alts)) (ha : mc_alt alts = some S') (hg : Go d T S' R) : Go d T S R := by
  obtain ⟨F, hF⟩ := hg
  refine ⟨F + 1, fun f hf g hg => ?_⟩
  obtain ⟨g, rfl⟩ : ∃ g', g = g' + 1 := ⟨g - 1, by omega⟩
  unfold mc_ex
  rw [hs]
  dsimp only
  rw [ha]
  exact hF f (by omega) g (by omega)
theorem Go.st1 {r : List (Bool × mc_S)} (hs : mc_step T S = some (.inl ((true, S') :: r))) (hg : Go d T S' R) : Go d T S R := Go.al hs rfl hg
theorem Go.run (k : Nat) (hs : mc_stk T k S = some S') (hg : Go d T S' R) : Go d T S R := by
  induction k generalizing S with
  | zero =>
    cases hs
    exact hg
  | succ k ih =>
    unfold mc_stk at hs
    split at hs
    · rename_i S1 r h1
      exact Go.st1 h1 (ih hs)
    · cases hs
theorem Go.ck {b : Bool} (hs : mc_step T S = some (.inl [(b, S')])) (hb : b = true) (hg : Go d T S' R) : Go d T S R := Go.al hs (by rw [hb]; rfl) hg
theorem Go.br {b : Bool} {S1 S2 : mc_S} (hs : mc_step T S = some (.inl [(b, S1), (true, S2)])) (h1 : b = true → Go d T S1 R) (h2 : b = false → Go d T S2 R) : Go d T S R := by
  cases b with
  | true => exact Go.al hs rfl (h1 rfl)
  | false => exact Go.al hs rfl (h2 rfl)
theorem Go.call {y : Nat} {as : List Value} {R1 : mc_R} (hs : mc_step T S = some (.inr (.inl (y, as, S')))) (hE : Ev d y as (mc_heap S') R1) (hg : Go d T (mc_aft R1.1 R1.2.1 R1.2.2.1 R1.2.2.2 S') R) : Go d T S R := by
  obtain ⟨F1, hF1⟩ := hE
  obtain ⟨F, hF⟩ := hg
  refine ⟨F + F1 + 1, fun f hf g hg => ?_⟩
  obtain ⟨g, rfl⟩ : ∃ g', g = g' + 1 := ⟨g - 1, by omega⟩
  unfold mc_ex
  rw [hs]
  dsimp only
  rw [hF1 f (by omega)]
  exact hF f (by omega) g (by omega)
theorem Go.ret {b : Bool} {v : Option Value} (hs : mc_step T S = some (.inr (.inr (b, v)))) (hb : b = true) (hR : R = (v, S.2.2.2.1, S.2.2.2.2.1, S.2.2.2.2.2)) : Go d T S R := by
  refine ⟨1, fun f _ g hg => ?_⟩
  obtain ⟨g, rfl⟩ : ∃ g', g = g' + 1 := ⟨g - 1, by omega⟩
  unfold mc_ex
  rw [hs, hb, hR]
  rfl
theorem Ev.of {y mL : Nat} {nm : MethodName} {by_ : ByteArray} {rt : Option FieldType} {as : List Value} {h : mc_H} (hy : PM y = (nm, by_, mL, rt, T)) (hle : Nat.ble (mc_exp as).length mL = true) (hg : Go d T (0, mc_pad mL (mc_exp as), [], h, 0, 0) R) : Ev (d + 1) y as h R := by
  obtain ⟨F, hF⟩ := hg
  refine ⟨F, fun f hf => ?_⟩
  unfold mc_run
  rw [hy]
  dsimp only
  rw [hle]
  exact hF f hf f hf
end GO
