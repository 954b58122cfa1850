/-- no answer -/
def mc_nr (o : Option mc_O) : Prop := match o with
  | some (.inr (.inr _)) => False
  | _ => True
theorem mc_nr_none : mc_nr none := trivial
theorem mc_nr_go {S : mc_S} : mc_nr (mc_go S) := trivial
theorem mc_nr_ck {b : Bool} {S : mc_S} : mc_nr (mc_ck b S) := trivial
theorem mc_nr_br {b : Bool} {S S2 : mc_S} : mc_nr (mc_br b S S2) := trivial
theorem mc_nr_alts {l : List (Bool × mc_S)} : mc_nr (some (.inl l)) := trivial
theorem mc_nr_call {v : Nat × List Value × mc_S} : mc_nr (some (.inr (.inl v))) := trivial
theorem mc_nr_bif2 {b : Bool} {o o2 : Option mc_O} (h : mc_nr o) (h2 : mc_nr o2) : mc_nr (bif b then o else o2) := by
  cases b
  · exact h2
  · exact h
theorem mc_nr_pop {b : Nat} {st acc : List Value} {k : List Value → List Value → Option mc_O} (h : ∀ as r, mc_nr (k as r)) : mc_nr (mc_pop b st acc k) := by
  cases hq : mc_pop b st acc k with
  | none => exact trivial
  | some x =>
    obtain ⟨as, r, -, -, h3⟩ := mc_pop_spec hq
    have h4 := h (as ++ acc) r
    rw [h3] at h4
    exact h4
theorem mc_nr_putK {k c n nx a b : Nat} {L : List (Option Value)} {st : List Value} {h : mc_H} : mc_nr (mc_putK k nx a b L st h c n) := by
  unfold mc_putK mc_put0 mc_put1 mc_put2 mc_put3
  simp only [mc_set_eq]
  repeat' (first
    | with_reducible exact mc_nr_none
    | with_reducible exact mc_nr_go
    | with_reducible exact mc_nr_ck
    | with_reducible refine mc_nr_bif2 ?_ ?_
    | split)
set_option maxHeartbeats 4000000 in
theorem mc_nr_stepI {ins : Instr} {nx a b : Nat} {iv : Int32} {lv : Int64} {sw : List (Int32 × Nat)} {vs : List Value} {L : List (Option Value)} {st : List Value} {h : mc_H} {c n : Nat} : mc_nr (mc_stepI ins nx a b iv lv sw vs L st h c n) ∨ ins = .ireturn ∨ ins = .lreturn ∨ ins = .areturn ∨ ins = .return_ := by
  unfold mc_stepI
  simp only [mc_set_eq, mc_app_eq, mc_len_eq]
  split
  all_goals first
    | exact Or.inr (Or.inl rfl)
    | exact Or.inr (Or.inr (Or.inl rfl))
    | exact Or.inr (Or.inr (Or.inr (Or.inl rfl)))
    | exact Or.inr (Or.inr (Or.inr (Or.inr rfl)))
    | refine Or.inl ?_
  all_goals repeat' (first
    | with_reducible exact mc_nr_none
    | with_reducible exact mc_nr_go
    | with_reducible exact mc_nr_ck
    | with_reducible exact mc_nr_br
    | with_reducible exact mc_nr_putK
    | with_reducible exact mc_nr_alts
    | with_reducible exact mc_nr_call
    | with_reducible refine mc_nr_bif2 ?_ ?_
    | with_reducible refine mc_nr_pop (fun _ _ => ?_)
    | split)
theorem mc_same_heap {ins : Instr} {nx a b : Nat} {iv : Int32} {lv : Int64} {sw : List (Int32 × Nat)} {vs : List Value} {L : List (Option Value)} {st : List Value} {h : mc_H} {c n : Nat} {y2 : Nat} {as : List Value} {pc' : Nat} {L' : List (Option Value)} {st2 : List Value} {h' : mc_H} {c' n' : Nat} (hs : mc_stepI ins nx a b iv lv sw vs L st h c n = some (.inr (.inl (y2, as, (pc', L', st2, h', c', n'))))) : h' = h := by
  rcases mc_nc_stepI (ins := ins) (nx := nx) (a := a) (b := b) (iv := iv) (lv := lv) (sw := sw) (vs := vs) (L := L) (st := st) (h := h) (c := c) (n := n) with hz | ⟨i, rfl⟩ | ⟨i, rfl⟩ | ⟨i, rfl⟩
  · rw [hs] at hz
    exact hz.elim
  · obtain ⟨as', r, -, -, hk⟩ := mc_pop_spec hs
    split at hk
    · split at hk
      · cases hb9 : (Nat.beq _ _ && Nat.ble (mc_w r) 8) <;> rw [hb9] at hk <;> cases hk
        rfl
      · cases hk
    · cases hk
  · cases b with
    | zero =>
      have hs : (match st with
        | .ref _ :: r => bif Nat.ble (mc_w r) 8 then mc_go (nx, L, r, h, c, n) else none
        | _ => none) = some (.inr (.inl (y2, as, (pc', L', st2, h', c', n')))) := hs
      split at hs
      · obtain ⟨-, hs⟩ := mc_ble hs
        cases hs
      · cases hs
    | succ b =>
      obtain ⟨as', r, -, -, hk⟩ := mc_pop_spec (n := b + 1) hs
      split at hk
      · obtain ⟨-, hk⟩ := mc_ble hk
        cases hk
        rfl
      · cases hk
  · dsimp only [mc_stepI] at hs
    cases ha9 : Nat.beq a 100001 with
    | true =>
      rw [ha9, cond_true] at hs
      split at hs
      · split at hs
        · simp only [mc_set_eq] at hs
          cases hs
        · simp only [mc_set_eq] at hs
          cases hs
        · cases hs
      · cases hs
    | false =>
      rw [ha9, cond_false] at hs
      obtain ⟨as', r, -, -, hk⟩ := mc_pop_spec hs
      obtain ⟨-, hk⟩ := mc_ble hk
      cases hk
      rfl
section MR
variable {p : Program} {l : Launch} {e : Env} {R : Room} {s : State} {m : MethodId} {args : Array Value} {below : List Frame} {meth : Method} {c : Code} {D : va_G} {A : Nat → Prop} {y : mc_M} {pc nx a b : Nat} {iv : Int32} {lv : Int64} {sw : List (Int32 × Nat)} {vs : List Value} {ps : List Nat} {L : List (Option Value)} {st : List Value} {h : mc_H} {c0 n0 : Nat} {ρ : Nat → Option Nat} {H : Heap} {locs : List Loc} {ls : Array Slot} {st' : List Value} {ins : Instr} {PM : Nat → mc_M} {Qc : Array Value → State → Outcome → State → Prop} {free : Addr → Prop}
/-- the end of a method -/
theorem mc_oneret (C : mc_Cx p s m args meth c D A y) (hrt : meth.sig.returnType = y.2.2.2.1) (hlk : meth.locks = false) (hok : mc_okI PM y pc ins nx a b iv lv sw vs ps = true) (hat : mc_At D s A y.2.2.1 (pc, L, st, h, c0, n0) ρ H locs ls st') {v : Option Value} (hs : mc_stepI ins nx a b iv lv sw vs L st h c0 n0 = some (.inr (.inr (true, v))))
    (hq : ∀ v', mc_or ρ v v' → (∀ t : State, t.heap = H → s.WarmedH t.vm → Qc args s (.returned v') t) ∧ ∀ q ∈ locs, free q.base) : W p l e R s m args below meth c H locs c0 n0 (MQ below Qc args s c0 n0 free) (F0 m pc ls st') := by
  obtain ⟨hx, hb, hml, hown, hts, hNW, hnm, hK, hA⟩ := C
  obtain ⟨hL, hst, hW, hT⟩ := hat
  cases ins with
  | ireturn =>
    obtain ⟨h1, h2⟩ := mc_and hok
    obtain ⟨hd, rfl⟩ := mc_dc_spec h1
    dsimp only [mc_stepI] at hs
    split at hs
    · rename_i x
      obtain ⟨_, _, rfl, rfl, hr⟩ := hst
      obtain rfl := (hr : _ = [])
      split at hs
      · cases hs
        obtain ⟨g1, g2⟩ := hq (some (.int x)) ⟨_, rfl, rfl⟩
        rcases (Bool.or_eq_true _ _).mp h2 with h3 | h3
        · exact W.iret hx hb (by rw [hrt]; exact of_decide_eq_true (mc_and h3).2) g1 g2 hd hlk
        · have := Nat.eq_of_beq_eq_true (mc_and h3).1
          omega
      · rename_i hne
        simp only [Option.some.injEq, Sum.inr.injEq, Prod.mk.injEq] at hs
        obtain ⟨hz, rfl⟩ := hs
        have hz := of_decide_eq_true hz
        obtain ⟨g1, g2⟩ := hq (some (.int x)) ⟨_, rfl, rfl⟩
        rcases (Bool.or_eq_true _ _).mp h2 with h3 | h3
        · exact absurd (Nat.eq_of_beq_eq_true (mc_and h3).1) hne
        · exact W.zret (ty := .boolean) hx hb (by rw [hrt]; exact of_decide_eq_true (mc_and h3).2) (by rcases hz with rfl | rfl <;> rfl) g1 g2 hd hlk
    · cases hs
  | lreturn =>
    obtain ⟨h1, h2⟩ := mc_and hok
    obtain ⟨hd, rfl⟩ := mc_dc_spec h1
    dsimp only [mc_stepI] at hs
    split at hs
    · rename_i x
      obtain ⟨_, _, rfl, rfl, hr⟩ := hst
      obtain rfl := (hr : _ = [])
      cases hs
      obtain ⟨g1, g2⟩ := hq (some (.long x)) ⟨_, rfl, rfl⟩
      exact W.lret hx hb (by rw [hrt]; exact of_decide_eq_true h2) g1 g2 hd hlk
    · cases hs
  | areturn =>
    obtain ⟨h1, h2⟩ := mc_and hok
    obtain ⟨hd, rfl⟩ := mc_dc_spec h1
    dsimp only [mc_stepI] at hs
    split at hs
    · rename_i x
      obtain ⟨_, _, rfl, ⟨q, hq9, rfl⟩, hr⟩ := hst
      obtain rfl := (hr : _ = [])
      cases hs
      obtain ⟨g1, g2⟩ := hq (some (.ref q)) ⟨_, rfl, ⟨q, hq9, rfl⟩⟩
      cases hrt9 : y.2.2.2.1 with
      | none => rw [hrt9] at h2; cases h2
      | some ty =>
        rw [hrt9] at h2
        refine W.aret (rt := ty) hx hb (by rw [hrt]; exact hrt9) ?_ (Or.inr ⟨q, rfl⟩) g1 g2 hd hlk
        cases ty <;> first | (cases h2; done) | exact Or.inl ⟨_, rfl⟩ | exact Or.inr ⟨_, rfl⟩
    · cases hs
  | return_ =>
    obtain ⟨h1, h2⟩ := mc_and hok
    obtain ⟨hd, rfl⟩ := mc_dc_spec h1
    dsimp only [mc_stepI] at hs
    split at hs
    · obtain rfl := (hst : _ = [])
      cases hs
      obtain ⟨g1, g2⟩ := hq none rfl
      exact W.vret hx hb (by rw [hrt]; exact of_decide_eq_true h2) g1 g2 hd hlk
    · cases hs
  | _ =>
    rcases mc_nr_stepI (ins := _) (nx := nx) (a := a) (b := b) (iv := iv) (lv := lv) (sw := sw) (vs := vs) (L := L) (st := st) (h := h) (c := c0) (n := n0) with hz | hz | hz | hz | hz
    · rw [hs] at hz
      exact hz.elim
    · cases hz
    · cases hz
    · cases hz
    · cases hz
set_option maxHeartbeats 4000000 in
/-- THE SMALL MACHINE'S RUN IS THE MACHINE'S -/
theorem mc_walk (hcls : mc_Cls) (C : mc_Cx p s m args meth c D A y) (hrt : meth.sig.returnType = y.2.2.2.1) (hlk : meth.locks = false) (hall : y.2.2.2.2.all (mc_okE PM y) = true) {d : Nat} {call : Nat → List Value → mc_H → Option mc_R} (IH : ∀ y2 as h Rr, call y2 as h = some Rr → mc_Ok l D d (PM y2) as h Rr) (hRf : d + 3 ≤ R.frames) (hRl : 200 + 100 * d ≤ R.locals) (Rr : mc_R) (hRc : Rr.2.2.1 ≤ R.cells ∧ Rr.2.2.2 ≤ R.slots) :
    ∀ (g : Nat) (S : mc_S) (ρ : Nat → Option Nat) (H : Heap) (locs : List Loc) (ls : Array Slot) (st' : List Value), mc_ex call y.2.2.2.2 g S = some Rr → mc_At D s A y.2.2.1 S ρ H locs ls st' → (∀ (ρ' : Nat → Option Nat) (v' : Option Value) (H' : Heap) (locs' : List Loc), mc_ext ρ ρ' → mc_or ρ' Rr.1 v' → mc_W D s A ρ' Rr.2.1 H' locs' → (∀ t : State, t.heap = H' → s.WarmedH t.vm → Qc args s (.returned v') t) ∧ ∀ q ∈ locs', free q.base) →
      W p l e R s m args below meth c H locs S.2.2.2.2.1 S.2.2.2.2.2 (MQ below Qc args s Rr.2.2.1 Rr.2.2.2 free) (F0 m S.1 ls st')
  | 0, _, _, _, _, _, _, h, _, _ => by cases h
  | g + 1, (pc, L, st, hh, c0, n0), ρ, H, locs, ls, st', h, hat, hq => by
    unfold mc_ex at h
    have hup := mc_up_step (T := y.2.2.2.2) (pc := pc) (L := L) (st := st) (h := hh) (c := c0) (n := n0)
    cases hs : mc_step y.2.2.2.2 (pc, L, st, hh, c0, n0) with
    | none => rw [hs] at h; cases h
    | some o =>
      rw [hs] at h hup
      obtain ⟨ins, nx, a, b, iv, lv, sw, vs, ps, hmem, hsI⟩ := mc_step_inv hs
      have hok : mc_okI PM y pc ins nx a b iv lv sw vs ps = true := List.all_eq_true.mp hall _ hmem
      rcases o with alts | ⟨y2, as, pc', L', st2, h', c', n'⟩ | ⟨bb, v⟩
      · cases ha : mc_alt alts with
        | none => dsimp only at h; rw [ha] at h; cases h
        | some S' =>
          dsimp only at h
          rw [ha] at h
          have hu := mc_ex_up g S' Rr h
          refine mc_one hcls C hok hat ⟨Nat.le_trans hu.1 hRc.1, Nat.le_trans hu.2 hRc.2⟩ (by omega) (by omega) hsI ha ?_
          intro ρ' H' locs' ls' st'' hx hat'
          exact mc_walk hcls C hrt hlk hall IH hRf hRl Rr hRc g S' ρ' H' locs' ls' st'' h hat' (fun ρ2 v2 H2 l2 h2 h3 h4 => hq ρ2 v2 H2 l2 (fun k q hk => h2 k q (hx k q hk)) h3 h4)
      · obtain ⟨e1, e2⟩ := hup
        have e1 : c' = c0 := e1
        have e2 : n' = n0 := e2
        subst e1
        subst e2
        have eh : h' = hh := mc_same_heap hsI
        subst eh
        dsimp only [mc_heap] at h
        split at h
        · cases h
        · rename_i v1 h1 c1 n1 hcall
          have hu := mc_ex_up g _ Rr h
          refine mc_onecall (Rr := (v1, h1, c1, n1)) C hok hat hsI (IH _ _ _ _ hcall) hRf hRl ⟨Nat.le_trans hu.1 hRc.1, Nat.le_trans hu.2 hRc.2⟩ ?_
          intro ρ' H' locs' ls' st'' hx hat'
          exact mc_walk hcls C hrt hlk hall IH hRf hRl Rr hRc g _ ρ' H' locs' ls' st'' h hat' (fun ρ2 v2 H2 l2 h2 h3 h4 => hq ρ2 v2 H2 l2 (fun k q hk => h2 k q (hx k q hk)) h3 h4)
      · dsimp only [mc_fin] at h
        cases bb with
        | false => cases h
        | true =>
          cases h
          exact mc_oneret C hrt hlk hok hat hsI (fun v' hv => hq ρ v' H locs mc_ext.rf hv hat.2.2.1)
end MR
