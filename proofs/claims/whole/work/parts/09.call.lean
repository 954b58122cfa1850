def mc_A (ρ : Nat → Option Nat) (sz : Nat) : Nat → Prop := fun q => (∃ k, k < 1000 ∧ ρ k = some q) ∨ sz ≤ q
def mc_or (ρ : Nat → Option Nat) (v w : Option Value) : Prop := match v with
  | none => w = none
  | some v => ∃ x, w = some x ∧ mc_vr ρ v x
def mc_Pc (D : va_G) (ρ : Nat → Option Nat) (h : mc_H) (as : List Value) (sz : Nat) : Array Value → State → Prop := fun v U => ∃ As : List Value, v = As.toArray ∧ mc_sr ρ as As ∧ U.heap.size = sz ∧ (∃ ws, va_P D vwCl ws U.heap ∧ va_D (fun _ => True) ws ∧ mc_hr U ρ h ws) ∧ va_K D vwCl [] U ∧ mc_NW U ∧ mc_ST ρ (mc_A ρ sz) U
def mc_Qc (D : va_G) (ρ : Nat → Option Nat) (sz : Nat) (v : Option Value) (h' : mc_H) : Array Value → State → Outcome → State → Prop := fun _ st oc t => (∃ (ρ' : Nat → Option Nat) (v' : Option Value), oc = .returned v' ∧ mc_ext ρ ρ' ∧ mc_or ρ' v v' ∧ ∃ ws, va_P D vwCl ws t.heap ∧ va_D (mc_A ρ sz) ws ∧ mc_hr t ρ' h' ws) ∧ va_F (mc_A ρ sz) st t
def mc_ws (y : mc_M) : List Cond := Cond.code y.1 y.2.1 y.2.2.1 y.2.2.2.1 :: mc_gw
def mc_rm (d cc ss : Nat) : Room := { frames := d + 2, cells := cc, slots := ss, locals := 100 + 100 * d }
/-- a run of the small machine is a contract -/
def mc_Ok (l : Launch) (D : va_G) (d : Nat) (y : mc_M) (as : List Value) (h : mc_H) (R : mc_R) : Prop := ∀ (ρ : Nat → Option Nat) (sz : Nat), Met l y.1 (mc_ws y) (mc_rm d R.2.2.1 R.2.2.2) (mc_Pc D ρ h as sz) (mc_Qc D ρ sz R.1 R.2.1) R.2.2.1 R.2.2.2 (mc_A ρ sz)
theorem mc_good : GoodIn mc_gw mc_gw := fun w hw => ⟨hw, good_of_word (List.mem_filter.mp hw).2⟩
theorem mc_good_ws {y : mc_M} (h : Cond.code y.1 y.2.1 y.2.2.1 y.2.2.2.1 ∈ mc_gw) : GoodIn mc_gw (mc_ws y) := fun w hw => by
  rcases List.mem_cons.mp hw with rfl | hw
  · exact mc_good _ h
  · exact mc_good _ hw
theorem mc_ST.moved {ρ : Nat → Option Nat} {A A' : Nat → Prop} {s U : State} {H : Heap} (hvm : s.vm.Alike U.vm) (hH : U.heap = H) (hk : ∀ a : Nat, a < s.heap.size → ¬ A a → H[a]? = s.heap[a]?) (hsub : ∀ q, A' q → A q) (h : mc_ST ρ A s) : mc_ST ρ A' U := by
  intro k t nm h1 h2
  obtain ⟨q, g1, g2, g3⟩ := h k t nm h1 h2
  rw [hH]
  exact ⟨q, g1, ((g2.moved hvm).kept hk).narrow hsub, ((g3.moved hvm).kept hk).narrow hsub⟩
theorem mc_blind (D : va_G) (ρ : Nat → Option Nat) (h : mc_H) (as : List Value) (sz : Nat) : FrameBlind (mc_Pc D ρ h as sz) := by
  intro a U g mk q
  obtain ⟨As, q1, q2, q3, ⟨ws, p1, p2, p3⟩, q5, q6, q7⟩ := q
  refine ⟨As, q1, q2, q3, ⟨ws, p1, p2, p3.moved (U := U.calling g mk a) (Vm.Alike.refl U.vm)⟩, va_K.moved (u := U) (U := U.calling g mk a) (Vm.Alike.refl U.vm) q5, mc_NW.warm (s := U) (U := U.calling g mk a) (State.WarmedH.refl U) q6, mc_ST.moved (s := U) (U := U.calling g mk a) (Vm.Alike.refl U.vm) rfl (fun _ _ _ => rfl) (fun _ h => h) q7⟩
section MM
variable {p : Program} {l : Launch} {e : Env} {R : Room} {s : State} {m : MethodId} {args : Array Value} {below : List Frame} {meth : Method} {c : Code} {Q : State → Prop} {D : va_G} {A : Nat → Prop} {y : mc_M} {pc nx a b : Nat} {iv : Int32} {lv : Int64} {sw : List (Int32 × Nat)} {vs : List Value} {L : List (Option Value)} {st : List Value} {h : mc_H} {c0 n0 : Nat} {ρ : Nat → Option Nat} {H : Heap} {locs : List Loc} {ls : Array Slot} {st' : List Value} {alts : List (Bool × mc_S)} {S' : mc_S}
theorem mc_sub {ws : va_W} (hD : va_D A ws) (hh : mc_hr s ρ h ws) (hS : va_S A s.heap H locs) (hA : ∀ q : Nat, s.heap.size ≤ q → A q) : ∀ q, mc_A ρ H.size q → A q := by
  intro q hq
  rcases hq with ⟨k, hk, hq⟩ | hq
  · rcases hh.2.2.2 k q hq with g | g
    · obtain ⟨q', e', g1, g2, -⟩ := hh.2.2.1 k _ (List.getElem?_eq_getElem g)
      cases hq.symm.trans g2
      exact hD.2 k _ g1
    · omega
  · exact hA q (Nat.le_trans hS.1 hq)
/-- what a callee finds -/
theorem mc_pre (hNW : mc_NW s) (hK : va_K D vwCl [] s) (hA : ∀ q : Nat, s.heap.size ≤ q → A q) (hW : mc_W D s A ρ h H locs) (hT : mc_ST ρ A s) {as As : List Value} (has : mc_sr ρ as As) {U : State} (hU : U.heap = H) (hWm : s.WarmedH U.vm) : mc_Pc D ρ h as H.size As.toArray U := by
  obtain ⟨ws, hP, hD, hh, hS⟩ := hW
  exact ⟨As, rfl, has, by rw [hU], ⟨ws, by rw [hU]; exact hP, hD.weaken (fun _ _ _ _ => trivial), hh.moved hWm.alike⟩, va_K.moved hWm.alike hK, hNW.warm hWm, hT.moved hWm.alike hU (fun a h1 h2 => hS.2.1 a h1 h2) (mc_sub hD hh hS hA)⟩
theorem mc_after {mc ms : Nat} {v : Option Value} {h' : mc_H} {st0 rest : List Value} {av : Array Value} (hA : ∀ q : Nat, s.heap.size ≤ q → A q) (hW : mc_W D s A ρ h H locs) (hr : va_Run p l e R s m args below meth c H locs c0 n0 mc ms (F0 m pc ls st0) rest (mc_Qc D ρ H.size v h' av) (mc_A ρ H.size))
    (kk : ∀ (ρ' : Nat → Option Nat) (v' : Option Value) (H1 : Heap) (locs1 : List Loc), mc_ext ρ ρ' → mc_or ρ' v v' → mc_W D s A ρ' h' H1 locs1 → W p l e R s m args below meth c H1 locs1 (c0 + mc) (n0 + ms) Q (F0 m (pc + 3) ls (v'.toList ++ rest))) : W p l e R s m args below meth c H locs c0 n0 Q (F0 m pc ls st0) := by
  obtain ⟨ws, hP, hD, hh, hS⟩ := hW
  have hsub := mc_sub hD hh hS hA
  intro T hT X
  obtain ⟨v1, st₀, t, T', L1, h0, X', hL1, e1, e2, ⟨⟨ρ', v', hv, hx, hor, ws', hP', hD', hh'⟩, hz, hk⟩, stp⟩ := hr T hT X
  cases hv
  rw [h0] at hz hk
  have hvm : s.vm.Alike t.vm := by rw [← e2]; exact X'.warmed.alike
  obtain ⟨t2, a1, b1⟩ := kk ρ' v1 T'.heap (locs ++ L1) hx hor ⟨ws', by rw [e1]; exact hP', hD'.weaken (fun _ _ _ hq => hsub _ hq), hh'.moved hvm.symm, ⟨Nat.le_trans hS.1 (by rw [e1]; exact hz), fun q h1 h2 => by rw [e1, hk q (Nat.lt_of_lt_of_le h1 hS.1) (fun z => h2 (hsub q z))]; exact hS.2.1 q h1 h2, fun q hq => by
      rcases List.mem_append.mp hq with h | h
      · exact hS.2.2 q h
      · exact hsub _ (hL1 q h)⟩⟩ T' rfl X'
  exact ⟨t2, stp t2 a1, b1⟩
theorem mc_pop_spec {β : Type} : ∀ {n : Nat} {st acc : List Value} {k : List Value → List Value → Option β} {x : β}, mc_pop n st acc k = some x → ∃ as r, st = as.reverse ++ r ∧ as.length = n ∧ k (as ++ acc) r = some x
  | 0, st, acc, k, x, h => ⟨[], st, rfl, rfl, h⟩
  | n + 1, [], acc, k, x, h => by cases h
  | n + 1, v :: st, acc, k, x, h => by
    obtain ⟨as, r, h1, h2, h3⟩ := mc_pop_spec (n := n) (st := st) (acc := v :: acc) h
    exact ⟨as ++ [v], r, by simp [h1], by simp [h2], by simpa using h3⟩
theorem mc_sr_split {ρ : Nat → Option Nat} : ∀ {u w z : List Value}, mc_sr ρ (u ++ w) z → ∃ z1 z2, z = z1 ++ z2 ∧ mc_sr ρ u z1 ∧ mc_sr ρ w z2
  | [], _, z, h => ⟨[], z, rfl, rfl, h⟩
  | _ :: u, w, z, ⟨a, b, h1, h2, h3⟩ => by
    obtain ⟨z1, z2, g1, g2, g3⟩ := mc_sr_split (u := u) h3
    exact ⟨a :: z1, z2, by rw [h1, g1]; rfl, ⟨a, z1, rfl, h2, g2⟩, g3⟩
theorem mc_sr_app {ρ : Nat → Option Nat} : ∀ {u z w z' : List Value}, mc_sr ρ u z → mc_sr ρ w z' → mc_sr ρ (u ++ w) (z ++ z')
  | [], _, _, _, h, g => by rw [h]; exact g
  | _ :: _, _, _, _, ⟨a, b, h1, h2, h3⟩, g => by rw [h1]; exact ⟨a, _, rfl, h2, mc_sr_app h3 g⟩
theorem mc_sr_rev {ρ : Nat → Option Nat} : ∀ {u z : List Value}, mc_sr ρ u z → mc_sr ρ u.reverse z.reverse
  | [], _, h => by rw [h]; exact rfl
  | _ :: _, _, ⟨a, b, h1, h2, h3⟩ => by
    rw [h1, List.reverse_cons, List.reverse_cons]
    exact mc_sr_app (mc_sr_rev h3) ⟨a, [], rfl, h2, rfl⟩
theorem mc_or_list {ρ : Nat → Option Nat} {v w : Option Value} (h : mc_or ρ v w) : mc_sr ρ v.toList w.toList := by
  cases v with
  | none => rw [show w = none from h]; exact rfl
  | some v =>
    obtain ⟨x, rfl, hx⟩ := h
    exact ⟨x, [], rfl, hx, rfl⟩
/-- what a call wants of the callee's name and numbers -/
def mc_cal (y2 : mc_M) (n : Nat) : Prop := (y2.1.cls ≠ "java/lang/invoke/MethodHandle" ∧ y2.1.cls ≠ "java/lang/invoke/VarHandle" ∧ (parseMethodDescriptor y2.1.desc).map (fun d => d.parameters.length) = some n) ∧ y2.2.2.1 ≤ 60 ∧ Cond.code y2.1 y2.2.1 y2.2.2.1 y2.2.2.2.1 ∈ mc_gw ∧ Cond.initialized y2.1.cls ∈ mc_gw
set_option maxHeartbeats 4000000 in
theorem mc_callV (C : mc_Cx p s m args meth c D A y) (hat : mc_At D s A y.2.2.1 (pc, L, st, h, c0, n0) ρ H locs ls st') {y2 : mc_M} {d i0 i k ci : Nat} {as r : List Value} {fs : List Value} {Rr : mc_R} (hst9 : st = (.ref i :: as).reverse ++ r) (hM : mc_Ok l D d y2 (.ref i :: as) h Rr) (hg : mc_get h i = some (.inr (ci, fs))) {q9 : vw_C} (hc : vwCl[ci]? = some q9) (hq9 : q9.1 = y2.1.cls) (hcal : mc_cal y2 as.length)
    (hw1 : Cond.methodLink y.1.cls i0 y2.1 ∈ mc_gw) (hw2 : Cond.instanceMethod y2.1 ∈ mc_gw) (hw3 : Cond.selects y2.1.cls y2.1 y2.1 ∈ mc_gw) (hw8 : mc_w r ≤ 8) (hRf : d + 3 ≤ R.frames) (hRl : 200 + 100 * d ≤ R.locals) (hRc : c0 + Rr.2.2.1 ≤ R.cells ∧ n0 + Rr.2.2.2 ≤ R.slots)
    (hd : decode y.2.1 pc = .ok (.invokevirtual i0, 3)) (kk : mc_Kn p l e R s m args below meth c Q D A y.2.2.1 ρ (pc + 3, L, Rr.1.toList ++ r, Rr.2.1, c0 + Rr.2.2.1, n0 + Rr.2.2.2)) : W p l e R s m args below meth c H locs c0 n0 Q (F0 m pc ls st') := by
  obtain ⟨hx, hb, hml, hown, hts, hNW, hnm, hK, hA⟩ := C
  obtain ⟨hL, hst, hW, hT⟩ := hat
  obtain ⟨hcal1, hcal2, hcal3, hcal4⟩ := hcal
  subst hst9
  obtain ⟨z1, z2, rfl, g1, g2⟩ := mc_sr_split hst
  have g1 := mc_sr_rev g1
  rw [List.reverse_reverse] at g1
  obtain ⟨_, As, e1, ⟨q, hq, rfl⟩, g3⟩ := g1
  have e2 : z1 = As.reverse ++ [.ref q] := by rw [← List.reverse_reverse z1, e1, List.reverse_cons]
  subst e2
  have g9 : mc_sr ρ (.ref i :: as) (.ref q :: As) := ⟨_, As, rfl, ⟨q, hq, rfl⟩, g3⟩
  have hrec : ∃ cell : Cell, H[q]? = some cell ∧ cell.vm.isStatics = false ∧ s.vm.findClass y2.1.cls = some cell.cls := by
    obtain ⟨ws, hP, hD, hh, hS⟩ := hW
    obtain ⟨q', e', hwi, hq', fs', rfl, hfs⟩ := hh.2.2.1 i _ (by rw [← mc_get_eq]; exact hg)
    cases hq.symm.trans hq'
    rw [← hq9]
    exact va_recv hK hP hc hwi
  refine mc_after (v := Rr.1) (h' := Rr.2.1) (mc := Rr.2.2.1) (ms := Rr.2.2.2) (rest := z2) (av := (Value.ref q :: As).toArray) hA hW ?_ (fun ρ' v' H1 locs1 hxt hor hW1 => kk ρ' H1 locs1 ls _ hxt ⟨hL.mono hxt, mc_sr_app (mc_or_list hor) (g2.mono hxt), hW1, hT.mono hxt⟩)
  refine va_runV (Ts := mc_gw) (As := As) (rest := z2) (b := q) (C := y2.1.cls) ⟨hx, hb, hml, hown, hts⟩ (hM ρ H.size) (cwV as.length hts ?_ rfl rfl rfl ⟨rfl, hcal1⟩ ⟨hRf, ?_⟩) ⟨mc_blind _ _ _ _ _, hrec, fun U hU hWm => mc_pre hNW hK hA hW hT g9 hU hWm⟩ rfl g3.len hL.1 (by simp) (lv_room (by rw [g2.w]; exact hw8)) hd hRc
  · intro w hw
    rcases List.mem_append.mp hw with hw | hw
    · simp only [List.mem_cons, List.mem_nil_iff, or_false] at hw
      rcases hw with rfl | rfl | rfl | rfl
      · exact mc_good _ hw1
      · exact mc_good _ hw2
      · exact mc_good _ hw3
      · exact mc_good _ hcal4
    · exact mc_good_ws hcal3 w hw
  · show 8 + (y2.2.2.1 + 11) + (100 + 100 * d) ≤ R.locals
    omega
set_option maxHeartbeats 4000000 in
theorem mc_callS (C : mc_Cx p s m args meth c D A y) (hat : mc_At D s A y.2.2.1 (pc, L, st, h, c0, n0) ρ H locs ls st') {y2 : mc_M} {d i0 : Nat} {as r : List Value} {Rr : mc_R} (hst9 : st = as.reverse ++ r) (hM : mc_Ok l D d y2 as h Rr) (hcal : mc_cal y2 as.length)
    (hw1 : Cond.methodLink y.1.cls i0 y2.1 ∈ mc_gw) (hw2 : Cond.static y2.1 ∈ mc_gw) (hw8 : mc_w r ≤ 8) (hRf : d + 3 ≤ R.frames) (hRl : 200 + 100 * d ≤ R.locals) (hRc : c0 + Rr.2.2.1 ≤ R.cells ∧ n0 + Rr.2.2.2 ≤ R.slots)
    (hd : decode y.2.1 pc = .ok (.invokestatic i0, 3)) (kk : mc_Kn p l e R s m args below meth c Q D A y.2.2.1 ρ (pc + 3, L, Rr.1.toList ++ r, Rr.2.1, c0 + Rr.2.2.1, n0 + Rr.2.2.2)) : W p l e R s m args below meth c H locs c0 n0 Q (F0 m pc ls st') := by
  obtain ⟨hx, hb, hml, hown, hts, hNW, hnm, hK, hA⟩ := C
  obtain ⟨hL, hst, hW, hT⟩ := hat
  obtain ⟨hcal1, hcal2, hcal3, hcal4⟩ := hcal
  subst hst9
  obtain ⟨z1, z2, rfl, g1, g2⟩ := mc_sr_split hst
  have g1 := mc_sr_rev g1
  rw [List.reverse_reverse] at g1
  refine mc_after (v := Rr.1) (h' := Rr.2.1) (mc := Rr.2.2.1) (ms := Rr.2.2.2) (rest := z2) (av := z1.reverse.toArray) hA hW ?_ (fun ρ' v' H1 locs1 hxt hor hW1 => kk ρ' H1 locs1 ls _ hxt ⟨hL.mono hxt, mc_sr_app (mc_or_list hor) (g2.mono hxt), hW1, hT.mono hxt⟩)
  refine va_runS (Ts := mc_gw) (As := z1.reverse) (rest := z2) ⟨hx, hb, hml, hown, hts⟩ (hM ρ H.size) (va_cwS as.length hts ?_ rfl rfl rfl hcal1 ⟨hRf, ?_⟩) ⟨mc_blind _ _ _ _ _, fun U hU hWm => mc_pre hNW hK hA hW hT g1 hU hWm⟩ rfl g1.len hL.1 (by simp) (lv_room (by rw [g2.w]; exact hw8)) hd hRc
  · intro w hw
    rcases List.mem_append.mp hw with hw | hw
    · simp only [List.mem_cons, List.mem_nil_iff, or_false] at hw
      rcases hw with rfl | rfl | rfl
      · exact mc_good _ hw1
      · exact mc_good _ hw2
      · exact mc_good _ hcal4
    · exact mc_good_ws hcal3 w hw
  · show 8 + (y2.2.2.1 + 11) + (100 + 100 * d) ≤ R.locals
    omega
set_option maxHeartbeats 4000000 in
theorem mc_callI (C : mc_Cx p s m args meth c D A y) (hat : mc_At D s A y.2.2.1 (pc, L, st, h, c0, n0) ρ H locs ls st') {y2 : mc_M} {d i0 i : Nat} {as r : List Value} {Rr : mc_R} (hst9 : st = (.ref i :: as).reverse ++ r) (hM : mc_Ok l D d y2 (.ref i :: as) h Rr) (hcal : mc_cal y2 as.length) (hnm2 : y2.1.name = "<init>") (hrt : y2.2.2.2.1 = none)
    (hw1 : Cond.methodLink y.1.cls i0 y2.1 ∈ mc_gw ∨ ∃ host, Cond.methodLinkNest y.1.cls i0 y2.1 host ∈ mc_nw) (hw2 : Cond.instanceMethod y2.1 ∈ mc_gw) (hw8 : mc_w r ≤ 8) (hRf : d + 3 ≤ R.frames) (hRl : 200 + 100 * d ≤ R.locals) (hRc : c0 + Rr.2.2.1 ≤ R.cells ∧ n0 + Rr.2.2.2 ≤ R.slots)
    (hd : decode y.2.1 pc = .ok (.invokespecial i0, 3)) (kk : mc_Kn p l e R s m args below meth c Q D A y.2.2.1 ρ (pc + 3, L, Rr.1.toList ++ r, Rr.2.1, c0 + Rr.2.2.1, n0 + Rr.2.2.2)) : W p l e R s m args below meth c H locs c0 n0 Q (F0 m pc ls st') := by
  obtain ⟨hx, hb, hml, hown, hts, hNW, hnm, hK, hA⟩ := C
  obtain ⟨hL, hst, hW, hT⟩ := hat
  obtain ⟨hcal1, hcal2, hcal3, hcal4⟩ := hcal
  subst hst9
  obtain ⟨z1, z2, rfl, g1, g2⟩ := mc_sr_split hst
  have g1 := mc_sr_rev g1
  rw [List.reverse_reverse] at g1
  obtain ⟨_, As, e1, ⟨q, hq, rfl⟩, g3⟩ := g1
  have e2 : z1 = As.reverse ++ [.ref q] := by rw [← List.reverse_reverse z1, e1, List.reverse_cons]
  subst e2
  have g9 : mc_sr ρ (.ref i :: as) (.ref q :: As) := ⟨_, As, rfl, ⟨q, hq, rfl⟩, g3⟩
  have hgw := mc_good_ws hcal3
  have hws : mc_ws y2 = Cond.code y2.1 y2.2.1 y2.2.2.1 none :: mc_gw := by rw [← hrt]; rfl
  have hlo : 8 + (y2.2.2.1 + 11) + (mc_rm d Rr.2.2.1 Rr.2.2.2).locals ≤ R.locals := by
    show 8 + (y2.2.2.1 + 11) + (100 + 100 * d) ≤ R.locals
    omega
  refine mc_after (v := Rr.1) (h' := Rr.2.1) (mc := Rr.2.2.1) (ms := Rr.2.2.2) (rest := z2) (av := (Value.ref q :: As).toArray) hA hW ?_ (fun ρ' v' H1 locs1 hxt hor hW1 => kk ρ' H1 locs1 ls _ hxt ⟨hL.mono hxt, mc_sr_app (mc_or_list hor) (g2.mono hxt), hW1, hT.mono hxt⟩)
  rcases hw1 with hw1 | ⟨host, hw1⟩
  · exact va_runI (Ts := mc_gw) (As := As) (rest := z2) (b := q) ⟨hx, hb, hml, hown, hts⟩ (hM ρ H.size) (cwI as.length hts hgw hws rfl rfl (hts _ hcal4) (hts _ hw1) (hts _ hw2) hnm2 hcal1 ⟨hRf, hlo⟩) ⟨mc_blind _ _ _ _ _, fun U hU hWm => mc_pre hNW hK hA hW hT g9 hU hWm⟩ rfl g3.len hL.1 (by simp) (lv_room (by rw [g2.w]; exact hw8)) hd hRc
  · exact va_runIN (Ts := mc_gw) (As := As) (rest := z2) (b := q) ⟨hx, hb, hml, hown, hts⟩ (hM ρ H.size) ⟨va_cnB as.length hts hgw hws rfl rfl (hNW.1 _ hw1) (hts _ hcal4) hcal1 ⟨hRf, hlo⟩, hnm2, hts _ hw2⟩ ⟨mc_blind _ _ _ _ _, fun U hU hWm => mc_pre hNW hK hA hW hT g9 hU hWm⟩ rfl g3.len hL.1 (by simp) (lv_room (by rw [g2.w]; exact hw8)) hd hRc
end MM
