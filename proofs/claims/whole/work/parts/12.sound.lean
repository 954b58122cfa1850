theorem mc_fnd_in : ∀ {T : List mc_En} {pc : Nat} {e : mc_En}, mc_fnd T pc = some e → e ∈ T ∧ e.1 = pc
  | [], _, _, h => by cases h
  | x :: r, pc, e, h => by
    unfold mc_fnd at h
    cases hb : Nat.beq x.1 pc with
    | true =>
      rw [hb, cond_true] at h
      cases h
      exact ⟨List.mem_cons_self, Nat.eq_of_beq_eq_true hb⟩
    | false =>
      rw [hb, cond_false] at h
      obtain ⟨h1, h2⟩ := mc_fnd_in h
      exact ⟨List.mem_cons_of_mem _ h1, h2⟩
theorem mc_step_inv {T : List mc_En} {pc : Nat} {L : List (Option Value)} {st : List Value} {h : mc_H} {c n : Nat} {o : mc_O} (hs : mc_step T (pc, L, st, h, c, n) = some o) : ∃ (ins : Instr) (nx a b : Nat) (iv : Int32) (lv : Int64) (sw : List (Int32 × Nat)) (vs : List Value) (ps : List Nat), (pc, ins, nx, a, b, iv, lv, sw, vs, ps) ∈ T ∧ mc_stepI ins nx a b iv lv sw vs L st h c n = some o := by
  dsimp only [mc_step] at hs
  split at hs
  · cases hs
  · rename_i pc0 ins nx a b iv lv sw vs ps hf
    obtain ⟨h1, h2⟩ := mc_fnd_in hf
    have h2 : pc0 = pc := h2
    subst h2
    exact ⟨ins, nx, a, b, iv, lv, sw, vs, ps, h1, hs⟩
theorem mc_up_step {T : List mc_En} {pc : Nat} {L : List (Option Value)} {st : List Value} {h : mc_H} {c n : Nat} : mc_up c n (mc_step T (pc, L, st, h, c, n)) := by
  dsimp only [mc_step]
  split
  · exact trivial
  · exact mc_up_stepI
theorem mc_ex_up {call : Nat → List Value → mc_H → Option mc_R} {T : List mc_En} : ∀ (g : Nat) (S : mc_S) (R : mc_R), mc_ex call T g S = some R → S.2.2.2.2.1 ≤ R.2.2.1 ∧ S.2.2.2.2.2 ≤ R.2.2.2
  | 0, _, _, h => by cases h
  | g + 1, (pc, L, st, hh, c, n), R, h => by
    have hu := mc_up_step (T := T) (pc := pc) (L := L) (st := st) (h := hh) (c := c) (n := n)
    unfold mc_ex at h
    cases hs : mc_step T (pc, L, st, hh, c, n) with
    | none => rw [hs] at h; cases h
    | some o =>
      rw [hs] at h hu
      rcases o with alts | ⟨y2, as, pc', L', st', h', c', n'⟩ | ⟨b, v⟩
      · cases ha : mc_alt alts with
        | none => dsimp only at h; rw [ha] at h; cases h
        | some S' =>
          dsimp only at h
          rw [ha] at h
          obtain ⟨b, hb⟩ := mc_alt_mem ha
          have h1 := hu _ hb
          have h2 := mc_ex_up g S' R h
          exact ⟨Nat.le_trans h1.1 h2.1, Nat.le_trans h1.2 h2.2⟩
      · obtain ⟨e1, e2⟩ := hu
        have e1 : c' = c := e1
        have e2 : n' = n := e2
        subst e1
        subst e2
        dsimp only at h
        split at h
        · cases h
        · have h2 := mc_ex_up g _ R h
          exact ⟨Nat.le_trans (Nat.le_add_right _ _) h2.1, Nat.le_trans (Nat.le_add_right _ _) h2.2⟩
      · dsimp only [mc_fin] at h
        cases b with
        | false => cases h
        | true =>
          cases h
          exact ⟨Nat.le_refl _, Nat.le_refl _⟩
/-- no call -/
def mc_nc (o : Option mc_O) : Prop := match o with
  | some (.inr (.inl _)) => False
  | _ => True
theorem mc_nc_none : mc_nc none := trivial
theorem mc_nc_go {S : mc_S} : mc_nc (mc_go S) := trivial
theorem mc_nc_ck {b : Bool} {S : mc_S} : mc_nc (mc_ck b S) := trivial
theorem mc_nc_br {b : Bool} {S S2 : mc_S} : mc_nc (mc_br b S S2) := trivial
theorem mc_nc_alts {l : List (Bool × mc_S)} : mc_nc (some (.inl l)) := trivial
theorem mc_nc_ret {v : Bool × Option Value} : mc_nc (some (.inr (.inr v))) := trivial
theorem mc_nc_bif2 {b : Bool} {o o2 : Option mc_O} (h : mc_nc o) (h2 : mc_nc o2) : mc_nc (bif b then o else o2) := by
  cases b
  · exact h2
  · exact h
theorem mc_nc_putK {k c n nx a b : Nat} {L : List (Option Value)} {st : List Value} {h : mc_H} : mc_nc (mc_putK k nx a b L st h c n) := by
  unfold mc_putK mc_put0 mc_put1 mc_put2 mc_put3
  simp only [mc_set_eq]
  repeat' (first
    | with_reducible exact mc_nc_none
    | with_reducible exact mc_nc_go
    | with_reducible exact mc_nc_ck
    | with_reducible refine mc_nc_bif2 ?_ ?_
    | split)
set_option maxHeartbeats 4000000 in
theorem mc_nc_stepI {ins : Instr} {nx a b : Nat} {iv : Int32} {lv : Int64} {sw : List (Int32 × Nat)} {vs : List Value} {L : List (Option Value)} {st : List Value} {h : mc_H} {c n : Nat} : mc_nc (mc_stepI ins nx a b iv lv sw vs L st h c n) ∨ (∃ i, ins = .invokevirtual i) ∨ (∃ i, ins = .invokespecial i) ∨ (∃ i, ins = .invokestatic i) := by
  unfold mc_stepI
  simp only [mc_set_eq, mc_app_eq, mc_len_eq]
  split
  all_goals first
    | exact Or.inr (Or.inl ⟨_, rfl⟩)
    | exact Or.inr (Or.inr (Or.inl ⟨_, rfl⟩))
    | exact Or.inr (Or.inr (Or.inr ⟨_, rfl⟩))
    | refine Or.inl ?_
  all_goals repeat' (first
    | with_reducible exact mc_nc_none
    | with_reducible exact mc_nc_go
    | with_reducible exact mc_nc_ck
    | with_reducible exact mc_nc_br
    | with_reducible exact mc_nc_putK
    | with_reducible exact mc_nc_alts
    | with_reducible exact mc_nc_ret
    | with_reducible refine mc_nc_bif2 ?_ ?_
    | split)
section MP
variable {p : Program} {l : Launch} {e : Env} {R : Room} {s : State} {m : MethodId} {args : Array Value} {below : List Frame} {meth : Method} {c : Code} {Q : State → Prop} {D : va_G} {A : Nat → Prop} {y : mc_M} {pc nx a b : Nat} {iv : Int32} {lv : Int64} {sw : List (Int32 × Nat)} {vs : List Value} {ps : List Nat} {L : List (Option Value)} {st : List Value} {h : mc_H} {c0 n0 : Nat} {ρ : Nat → Option Nat} {H : Heap} {locs : List Loc} {ls : Array Slot} {st' : List Value} {S' : mc_S} {ins : Instr} {PM : Nat → mc_M}
set_option maxHeartbeats 4000000 in
/-- a call of the small machine -/
theorem mc_onecall (C : mc_Cx p s m args meth c D A y) (hok : mc_okI PM y pc ins nx a b iv lv sw vs ps = true) (hat : mc_At D s A y.2.2.1 (pc, L, st, h, c0, n0) ρ H locs ls st') {y2 d : Nat} {as : List Value} {Rr : mc_R} (hs : mc_stepI ins nx a b iv lv sw vs L st h c0 n0 = some (.inr (.inl (y2, as, S')))) (hM : mc_Ok l D d (PM y2) as h Rr) (hRf : d + 3 ≤ R.frames) (hRl : 200 + 100 * d ≤ R.locals) (hRc : c0 + Rr.2.2.1 ≤ R.cells ∧ n0 + Rr.2.2.2 ≤ R.slots)
    (kk : mc_Kn p l e R s m args below meth c Q D A y.2.2.1 ρ (mc_aft Rr.1 Rr.2.1 Rr.2.2.1 Rr.2.2.2 S')) : W p l e R s m args below meth c H locs c0 n0 Q (F0 m pc ls st') := by
  cases ins with
  | invokevirtual i =>
    obtain ⟨h1, h2⟩ := mc_and hok
    obtain ⟨hd, rfl⟩ := mc_dc_spec h1
    obtain ⟨as', r, hst9, hlen, hk⟩ := mc_pop_spec hs
    rw [List.append_nil] at hk
    split at hk
    · rename_i i1 as1 k9 k
      split at hk
      · rename_i ci fs hg
        cases hb9 : (Nat.beq ci k && Nat.ble (mc_w r) 8) with
        | false => rw [hb9] at hk; cases hk
        | true =>
          rw [hb9] at hk
          cases hk
          obtain ⟨hb1, hb2⟩ := mc_and hb9
          have hb1 := Nat.eq_of_beq_eq_true hb1
          subst hb1
          unfold mc_vrt at h2
          dsimp only at h2
          split at h2
          · rename_i q9 hc
            obtain ⟨g1, h2⟩ := mc_and h2
            obtain ⟨g2, h2⟩ := mc_and h2
            obtain ⟨g3, h2⟩ := mc_and h2
            obtain ⟨g4, g5⟩ := mc_and h2
            have hn : b - 1 = as1.length := by rw [← hlen]; rfl
            rw [hn] at g5
            exact mc_callV (k := 0) C hat hst9 hM hg hc (of_decide_eq_true g1) (mc_calb_spec g5) (mc_wd_in g2) (mc_wd_in g3) (mc_wd_in g4) (Nat.le_of_ble_eq_true hb2) hRf hRl hRc hd kk
          · cases h2
      · cases hk
    · cases hk
  | invokespecial i =>
    obtain ⟨h1, h2⟩ := mc_and hok
    obtain ⟨hd, rfl⟩ := mc_dc_spec h1
    cases b with
    | zero =>
      have hs : (match st with
        | .ref _ :: r => bif Nat.ble (mc_w r) 8 then mc_go (pc + 3, L, r, h, c0, n0) else none
        | _ => none) = some (.inr (.inl (y2, as, S'))) := hs
      split at hs
      · obtain ⟨-, hs⟩ := mc_ble hs
        cases hs
      · cases hs
    | succ b =>
      have h2 : mc_spc PM y a (b + 1) i ps = true := h2
      obtain ⟨as', r, hst9, hlen, hk⟩ := mc_pop_spec (n := b + 1) hs
      rw [List.append_nil] at hk
      split at hk
      · rename_i i1 as1
        obtain ⟨hb2, hk⟩ := mc_ble hk
        cases hk
        obtain ⟨g1, h2⟩ := mc_and h2
        obtain ⟨g2, h2⟩ := mc_and h2
        obtain ⟨g3, h2⟩ := mc_and h2
        obtain ⟨g4, g5⟩ := mc_and h2
        have hn : b + 1 - 1 = as1.length := by rw [← hlen]; rfl
        rw [hn] at g3
        refine mc_callI C hat hst9 hM (mc_calb_spec g3) (of_decide_eq_true g4) (of_decide_eq_true g5) ?_ (mc_wd_in g2) hb2 hRf hRl hRc hd kk
        rcases (Bool.or_eq_true _ _).mp g1 with g | g
        · exact Or.inl (mc_wd_in g)
        · exact Or.inr ⟨_, mc_nd_in g⟩
      · cases hk
  | invokestatic i =>
    obtain ⟨h1, h2⟩ := mc_and hok
    obtain ⟨hd, rfl⟩ := mc_dc_spec h1
    dsimp only [mc_stepI] at hs
    cases ha9 : Nat.beq a 100001 with
    | true =>
      rw [ha9, cond_true] at hs
      split at hs
      · split at hs
        · simp only [mc_set_eq] at hs
          cases hs
        · simp only [mc_set_eq] at hs
          cases hs
        · cases hs
      · cases hs
    | false =>
      rw [ha9, cond_false] at hs h2
      obtain ⟨as', r, hst9, hlen, hk⟩ := mc_pop_spec hs
      rw [List.append_nil] at hk
      obtain ⟨hb2, hk⟩ := mc_ble hk
      cases hk
      obtain ⟨g1, h2⟩ := mc_and h2
      obtain ⟨g2, g3⟩ := mc_and h2
      rw [← hlen] at g3
      exact mc_callS C hat hst9 hM (mc_calb_spec g3) (mc_wd_in g1) (mc_wd_in g2) hb2 hRf hRl hRc hd kk
  | _ =>
    rcases mc_nc_stepI (ins := _) (nx := nx) (a := a) (b := b) (iv := iv) (lv := lv) (sw := sw) (vs := vs) (L := L) (st := st) (h := h) (c := c0) (n := n0) with hz | ⟨i, hz⟩ | ⟨i, hz⟩ | ⟨i, hz⟩
    · rw [hs] at hz
      exact hz.elim
    · cases hz
    · cases hz
    · cases hz
end MP
