/-! Two worlds side by side: the class's and the reference's. -/
def mc_W2 (D : va_G) (s : State) (A : Nat → Prop) (ρ1 : Nat → Option Nat) (h1 : mc_H) (ρ2 : Nat → Option Nat) (h2 : mc_H) (H : Heap) (locs : List Loc) : Prop := ∃ ws1 ws2 : va_W, va_P D vwCl ws1 H ∧ va_D A ws1 ∧ mc_hr s ρ1 h1 ws1 ∧ va_P D vwCl ws2 H ∧ va_D A ws2 ∧ mc_hr s ρ2 h2 ws2 ∧ (∀ (i j : Nat) (x z : Nat × va_E), ws1[i]? = some x → ws2[j]? = some z → x.1 ≠ z.1) ∧ va_S A s.heap H locs
theorem mc_W2.swap {D : va_G} {s : State} {A : Nat → Prop} {ρ1 ρ2 : Nat → Option Nat} {h1 h2 : mc_H} {H : Heap} {locs : List Loc} (h : mc_W2 D s A ρ1 h1 ρ2 h2 H locs) : mc_W2 D s A ρ2 h2 ρ1 h1 H locs := by
  obtain ⟨ws1, ws2, a1, a2, a3, b1, b2, b3, hd, hS⟩ := h
  exact ⟨ws2, ws1, b1, b2, b3, a1, a2, a3, fun i j x z hx hz e => hd j i z x hz hx e.symm, hS⟩
section LW
variable {p : Program} {l : Launch} {e : Env} {R : Room} {s : State} {m : MethodId} {args : Array Value} {below : List Frame} {meth : Method} {c : Code} {Q : State → Prop} {D : va_G} {A : Nat → Prop} {pc : Nat} {h1 h2 : mc_H} {c0 n0 : Nat} {ρ1 ρ2 : Nat → Option Nat} {H : Heap} {locs : List Loc} {ls : Array Slot} {cc : ByteArray} {own : String} {nL : Nat}
theorem mc_pre2 (hNW : mc_NW s) (hK : va_K D vwCl [] s) (hA : ∀ q : Nat, s.heap.size ≤ q → A q) (hW : mc_W2 D s A ρ1 h1 ρ2 h2 H locs) (hT : mc_ST ρ1 A s) {as As : List Value} (has : mc_sr ρ1 as As) {U : State} (hU : U.heap = H) (hWm : s.WarmedH U.vm) : mc_Pc D ρ1 h1 as H.size As.toArray U := by
  obtain ⟨ws1, ws2, a1, a2, a3, b1, b2, b3, hd, hS⟩ := hW
  exact mc_pre hNW hK hA ⟨ws1, a1, a2, a3, hS⟩ hT has hU hWm
theorem mc_after2 {mc ms : Nat} {v : Option Value} {h' : mc_H} {st0 rest : List Value} {av : Array Value} (hA : ∀ q : Nat, s.heap.size ≤ q → A q) (hW : mc_W2 D s A ρ1 h1 ρ2 h2 H locs) (hr : va_Run p l e R s m args below meth c H locs c0 n0 mc ms (F0 m pc ls st0) rest (mc_Qc D ρ1 H.size v h' av) (mc_A ρ1 H.size))
    (kk : ∀ (ρ' : Nat → Option Nat) (v' : Option Value) (H1 : Heap) (locs1 : List Loc), mc_ext ρ1 ρ' → mc_or ρ' v v' → mc_W2 D s A ρ' h' ρ2 h2 H1 locs1 → W p l e R s m args below meth c H1 locs1 (c0 + mc) (n0 + ms) Q (F0 m (pc + 3) ls (v'.toList ++ rest))) : W p l e R s m args below meth c H locs c0 n0 Q (F0 m pc ls st0) := by
  obtain ⟨ws1, ws2, a1, a2, a3, b1, b2, b3, hd, hS⟩ := hW
  have hsub := mc_sub a2 a3 hS hA
  have hout : ∀ (j : Nat) (z : Nat × va_E), ws2[j]? = some z → z.1 < H.size ∧ ¬ mc_A ρ1 H.size z.1 := by
    intro j z hz
    have hl := (b1 j z hz).lt
    refine ⟨hl, fun hq => ?_⟩
    rcases hq with ⟨k, hk, hq⟩ | hq
    · rcases a3.2.2.2 k _ hq with g | g
      · obtain ⟨q', e', g1, g2, -⟩ := a3.2.2.1 k _ (List.getElem?_eq_getElem g)
        have := hq.symm.trans g2
        cases this
        exact hd k j _ z g1 hz rfl
      · omega
    · omega
  intro T hT X
  obtain ⟨v1, st₀, t, T', L1, h0, X', hL1, e1, e2, ⟨⟨ρ', v', hv, hx, hor, ws', hP', hD', hh'⟩, hz, hk⟩, stp⟩ := hr T hT X
  cases hv
  rw [h0] at hz hk
  have hvm : s.vm.Alike t.vm := by rw [← e2]; exact X'.warmed.alike
  obtain ⟨t2, g1, g2⟩ := kk ρ' v1 T'.heap (locs ++ L1) hx hor ⟨ws', ws2, by rw [e1]; exact hP', hD'.weaken (fun _ _ _ hq => hsub _ hq), hh'.moved hvm.symm, fun j z hzj => (b1 j z hzj).kept (by rw [e1]; exact hk z.1 (hout j z hzj).1 (hout j z hzj).2), b2, b3, fun i j x z hi hj hxz => (hout j z hj).2 (by rw [← hxz]; exact hD'.2 i x hi), ⟨Nat.le_trans hS.1 (by rw [e1]; exact hz), fun q h1 h2 => by rw [e1, hk q (Nat.lt_of_lt_of_le h1 hS.1) (fun z => h2 (hsub q z))]; exact hS.2.1 q h1 h2, fun q hq => by
      rcases List.mem_append.mp hq with h | h
      · exact hS.2.2 q h
      · exact hsub _ (hL1 q h)⟩⟩ T' rfl X'
  exact ⟨t2, stp t2 g1, g2⟩
/-- what the law's call of a method wants of the words -/
def law_cw (own : String) (i0 : Nat) (y2 : mc_M) (n : Nat) : Prop := Cond.methodLink own i0 y2.1 ∈ mc_gw ∧ Cond.instanceMethod y2.1 ∈ mc_gw ∧ Cond.selects y2.1.cls y2.1 y2.1 ∈ mc_gw ∧ mc_cal y2 n
set_option maxHeartbeats 4000000 in
theorem law_callV (hx : p.tables.exec = Jvm.exec) (hb : c.code = cc) (hml : c.maxLocals = nL) (hown : s.vm.findClass own = some m.cls) (hts : ∀ w ∈ mc_gw, w.before args s = true) (hNW : mc_NW s) (hK : va_K D vwCl [] s) (hA : ∀ q : Nat, s.heap.size ≤ q → A q) (hls : ls.size = nL) (hW : mc_W2 D s A ρ1 h1 ρ2 h2 H locs) (hT : mc_ST ρ1 A s) {y2 : mc_M} {d i0 q ci : Nat} {as r : List Value} {fs : List Value} {Rr : mc_R} (hq : ρ1 0 = some q) (hM : mc_Ok l D d y2 (.ref 0 :: as) h1 Rr) (hpl : ∀ x ∈ as, ∀ k, x ≠ .ref k) (hg : h1[0]? = some (.inr (ci, fs))) {q9 : vw_C} (hc : vwCl[ci]? = some q9) (hq9 : q9.1 = y2.1.cls)
    (hw : law_cw own i0 y2 as.length) (hw8 : (r.map fun v => v.category).sum ≤ 8) (hRf : d + 3 ≤ R.frames) (hRl : 200 + 100 * d ≤ R.locals) (hRc : c0 + Rr.2.2.1 ≤ R.cells ∧ n0 + Rr.2.2.2 ≤ R.slots)
    (hd : decode cc pc = .ok (.invokevirtual i0, 3)) (kk : ∀ (ρ' : Nat → Option Nat) (v' : Option Value) (H1 : Heap) (locs1 : List Loc), mc_ext ρ1 ρ' → mc_or ρ' Rr.1 v' → mc_W2 D s A ρ' Rr.2.1 ρ2 h2 H1 locs1 → W p l e R s m args below meth c H1 locs1 (c0 + Rr.2.2.1) (n0 + Rr.2.2.2) Q (F0 m (pc + 3) ls (v'.toList ++ r))) : W p l e R s m args below meth c H locs c0 n0 Q (F0 m pc ls (as.reverse ++ .ref q :: r)) := by
  obtain ⟨hw1, hw2, hw3, hcal1, hcal2, hcal3, hcal4⟩ := hw
  have g9 : mc_sr ρ1 (.ref 0 :: as) (.ref q :: as) := ⟨_, as, rfl, ⟨q, hq, rfl⟩, mc_sr_plain hpl⟩
  have hrec : ∃ cell : Cell, H[q]? = some cell ∧ cell.vm.isStatics = false ∧ s.vm.findClass y2.1.cls = some cell.cls := by
    obtain ⟨ws1, ws2, a1, a2, a3, -⟩ := hW
    obtain ⟨q', e', hwi, hq', fs', rfl, hfs⟩ := a3.2.2.1 0 _ hg
    cases hq.symm.trans hq'
    rw [← hq9]
    exact va_recv hK a1 hc hwi
  refine mc_after2 (v := Rr.1) (h' := Rr.2.1) (mc := Rr.2.2.1) (ms := Rr.2.2.2) (rest := r) (av := (Value.ref q :: as).toArray) hA hW ?_ kk
  refine va_runV (Ts := mc_gw) (As := as) (rest := r) (b := q) (C := y2.1.cls) ⟨hx, hb, hml, hown, hts⟩ (hM ρ1 H.size) (cwV as.length hts ?_ rfl rfl rfl ⟨rfl, hcal1⟩ ⟨hRf, ?_⟩) ⟨mc_blind _ _ _ _ _, hrec, fun U hU hWm => mc_pre2 hNW hK hA hW hT g9 hU hWm⟩ rfl rfl hls rfl (lv_room hw8) hd hRc
  · intro w hw
    rcases List.mem_append.mp hw with hw | hw
    · simp only [List.mem_cons, List.mem_nil_iff, or_false] at hw
      rcases hw with rfl | rfl | rfl | rfl
      · exact mc_good _ hw1
      · exact mc_good _ hw2
      · exact mc_good _ hw3
      · exact mc_good _ hcal4
    · exact mc_good_ws hcal3 w hw
  · show 8 + (y2.2.2.1 + 11) + (100 + 100 * d) ≤ R.locals
    omega
end LW
