section LS
variable {p : Program} {l : Launch} {e : Env} {R : Room} {s : State} {m : MethodId} {args : Array Value} {below : List Frame} {meth : Method} {c : Code} {Q : State → Prop} {D : va_G} {A : Nat → Prop} {pc : Nat} {h1 h2 : mc_H} {c0 n0 : Nat} {ρ1 ρ2 : Nat → Option Nat} {H : Heap} {locs : List Loc} {ls : Array Slot} {cc : ByteArray} {own : String} {nL : Nat}
set_option maxHeartbeats 4000000 in
theorem law_new2 (hx : p.tables.exec = Jvm.exec) (hb : c.code = cc) (hown : s.vm.findClass own = some m.cls) (hts : ∀ w ∈ mc_gw, w.before args s = true) (hK : va_K D vwCl [] s) (hA : ∀ q : Nat, s.heap.size ≤ q → A q) (hW : mc_W2 D s A ρ1 h1 ρ2 [] H locs) {i0 ci : Nat} {vs rest : List Value} {Cn : String} {Tn : u_T} {Nn : Nat} (hc : vwCl[ci]? = some (Cn, Tn, Nn)) (hw1 : Jvm.Cond.classLink own i0 Cn ∈ mc_gw) (hw2 : Jvm.Cond.instantiable Cn Nn ∈ mc_gw) (hw3 : Jvm.Cond.initialized Cn ∈ mc_gw) (hvs : ∀ x ∈ vs, ∀ k, x ≠ .ref k) (hdf : ∀ j, j < Nn → defaultValue (mc_ft Tn j) = vp_V vs j) (hRc : c0 + 1 ≤ R.cells ∧ n0 + Nn ≤ R.slots) (hd : decode cc pc = .ok (.new i0, 3))
    (kk : ∀ (q : Nat) (H1 : Heap), mc_W2 D s A ρ1 h1 (mc_add ρ2 0 q) [.inr (ci, vs)] H1 locs → W p l e R s m args below meth c H1 locs (c0 + 1) (n0 + Nn) Q (F0 m (pc + 3) ls (.ref q :: rest))) : W p l e R s m args below meth c H locs c0 n0 Q (F0 m pc ls rest) := by
  obtain ⟨ws1, ws2, a1, a2, a3, b1, b2, b3, hdj, hS⟩ := hW
  have hw2n : ws2 = [] := List.eq_nil_of_length_eq_zero b3.1
  subst hw2n
  refine va_new hx hb hts (mc_cls ci _ hc).1 (mc_ft Tn) (mc_cls ci _ hc).2.1 hown (hts _ hw1) (hts _ hw2) (hts _ hw3) hK a1 a2 hS hA hc hdf hRc.1 hRc.2 hd ?_
  intro q H1 hP1 hD1 hS1
  have hleft : ∀ (k : Nat) (x : Nat × va_E), ws1[k]? = some x → (ws1 ++ [(q, .inr (ci, vs))])[k]? = some x := fun k x hk => by
    rw [List.getElem?_append_left (List.getElem?_eq_some_iff.mp hk).1]
    exact hk
  have hlast : (ws1 ++ [(q, (.inr (ci, vs) : va_E))])[ws1.length]? = some (q, .inr (ci, vs)) := by simp
  have hone : ∀ (k : Nat) (x : Nat × va_E), [(q, (.inr (ci, vs) : va_E))][k]? = some x → x = (q, .inr (ci, vs)) := fun k x hk => by
    have hz : k < 1 := (List.getElem?_eq_some_iff.mp hk).1
    rw [show k = 0 by omega] at hk
    exact (Option.some.inj hk).symm
  refine kk q H1 ⟨ws1, [(q, .inr (ci, vs))], fun k x hk => hP1 k x (hleft k x hk), ⟨fun i j x z hi hj hxz => hD1.1 i j x z (hleft i x hi) (hleft j z hj) hxz, fun k x hk => hD1.2 k x (hleft k x hk)⟩, a3, fun k x hk => by rw [hone k x hk]; exact hP1 _ _ hlast, ⟨fun i j x z hi hj _ => ?_, fun k x hk => by rw [hone k x hk]; exact hD1.2 _ _ hlast⟩, mc_hr.add b3 (by decide) ⟨_, rfl, mc_sr_plain hvs⟩, fun i j x z hi hj hxz => ?_, hS1⟩
  · have hz1 : i < 1 := (List.getElem?_eq_some_iff.mp hi).1
    have hz2 : j < 1 := (List.getElem?_eq_some_iff.mp hj).1
    omega
  · have hi2 := hleft i x hi
    rw [hone j z hj] at hxz
    have := hD1.1 i ws1.length x _ hi2 hlast hxz
    have := (List.getElem?_eq_some_iff.mp hi).1
    omega
set_option maxHeartbeats 4000000 in
theorem law_callI (hx : p.tables.exec = Jvm.exec) (hb : c.code = cc) (hml : c.maxLocals = nL) (hown : s.vm.findClass own = some m.cls) (hts : ∀ w ∈ mc_gw, w.before args s = true) (hNW : mc_NW s) (hK : va_K D vwCl [] s) (hA : ∀ q : Nat, s.heap.size ≤ q → A q) (hls : ls.size = nL) (hW : mc_W2 D s A ρ1 h1 ρ2 h2 H locs) (hT : mc_ST ρ1 A s) {y2 : mc_M} {d i0 q : Nat} {r : List Value} {Rr : mc_R} (hq : ρ1 0 = some q) (hM : mc_Ok l D d y2 [.ref 0] h1 Rr) (hcal : mc_cal y2 0) (hnm2 : y2.1.name = "<init>") (hrt : y2.2.2.2.1 = none) (hw1 : Cond.methodLink own i0 y2.1 ∈ mc_gw) (hw2 : Cond.instanceMethod y2.1 ∈ mc_gw) (hw8 : (r.map fun v => v.category).sum ≤ 8) (hRf : d + 3 ≤ R.frames) (hRl : 200 + 100 * d ≤ R.locals) (hRc : c0 + Rr.2.2.1 ≤ R.cells ∧ n0 + Rr.2.2.2 ≤ R.slots)
    (hd : decode cc pc = .ok (.invokespecial i0, 3)) (kk : ∀ (ρ' : Nat → Option Nat) (v' : Option Value) (H1 : Heap) (locs1 : List Loc), mc_ext ρ1 ρ' → mc_or ρ' Rr.1 v' → mc_W2 D s A ρ' Rr.2.1 ρ2 h2 H1 locs1 → W p l e R s m args below meth c H1 locs1 (c0 + Rr.2.2.1) (n0 + Rr.2.2.2) Q (F0 m (pc + 3) ls (v'.toList ++ r))) : W p l e R s m args below meth c H locs c0 n0 Q (F0 m pc ls (.ref q :: r)) := by
  obtain ⟨hcal1, hcal2, hcal3, hcal4⟩ := hcal
  have g9 : mc_sr ρ1 [.ref 0] [.ref q] := ⟨_, [], rfl, ⟨q, hq, rfl⟩, rfl⟩
  have hgw := mc_good_ws hcal3
  have hws : mc_ws y2 = Cond.code y2.1 y2.2.1 y2.2.2.1 none :: mc_gw := by rw [← hrt]; rfl
  have hlo : 8 + (y2.2.2.1 + 11) + (mc_rm d Rr.2.2.1 Rr.2.2.2).locals ≤ R.locals := by
    show 8 + (y2.2.2.1 + 11) + (100 + 100 * d) ≤ R.locals
    omega
  refine mc_after2 (v := Rr.1) (h' := Rr.2.1) (mc := Rr.2.2.1) (ms := Rr.2.2.2) (rest := r) (av := [Value.ref q].toArray) hA hW ?_ kk
  exact va_runI (Ts := mc_gw) (As := []) (rest := r) (b := q) ⟨hx, hb, hml, hown, hts⟩ (hM ρ1 H.size) (cwI 0 hts hgw hws rfl rfl (hts _ hcal4) (hts _ hw1) (hts _ hw2) hnm2 hcal1 ⟨hRf, hlo⟩) ⟨mc_blind _ _ _ _ _, fun U hU hWm => mc_pre2 hNW hK hA hW hT g9 hU hWm⟩ rfl rfl hls rfl (lv_room hw8) hd hRc
end LS
set_option maxRecDepth 100000 in
set_option maxHeartbeats 4000000 in
theorem lw_st0 {args : Array Value} {s : State} (hgv : (Jvm.Cond.and given_1 narrow_1).before args s = true) (hts : ∀ w ∈ lw_tbl, w.before args s = true) : ∃ q, va_Z "PastOnce" "AT_FIRST" "[I" (.ref q) (lw_A s) s s.heap ∧ va_T .int q 10 (fun j => .int (mc_tf [5, 1, 3, 4, 0, 0, 10, 12, 20, 0] j)) (lw_A s) s s.heap := by
  have hs := flat_of_before _ hgv
  have hA : ∀ a : Nat, a < s.heap.size → ¬ lw_A s a := fun a h => Nat.not_le.mpr h
  have hel : ∀ j : Nat, j < 10 → (Term.elem (.static "PastOnce" "AT_FIRST" "[I") (.int (Int32.ofNat j))).eval args s none [] s = some (.int (mc_tf [5, 1, 3, 4, 0, 0, 10, 12, 20, 0] j)) := by
    intro j hj
    match j, hj with
    | 0, _ => exact va_eqt (hs (.eq (.elem (.static "PastOnce" "AT_FIRST" "[I") (.int 0)) (.int 5)) (by decide +kernel))
    | 1, _ => exact va_eqt (hs (.eq (.elem (.static "PastOnce" "AT_FIRST" "[I") (.int 1)) (.int 1)) (by decide +kernel))
    | 2, _ => exact va_eqt (hs (.eq (.elem (.static "PastOnce" "AT_FIRST" "[I") (.int 2)) (.int 3)) (by decide +kernel))
    | 3, _ => exact va_eqt (hs (.eq (.elem (.static "PastOnce" "AT_FIRST" "[I") (.int 3)) (.int 4)) (by decide +kernel))
    | 4, _ => exact va_eqt (hs (.eq (.elem (.static "PastOnce" "AT_FIRST" "[I") (.int 4)) (.int 0)) (by decide +kernel))
    | 5, _ => exact va_eqt (hs (.eq (.elem (.static "PastOnce" "AT_FIRST" "[I") (.int 5)) (.int 0)) (by decide +kernel))
    | 6, _ => exact va_eqt (hs (.eq (.elem (.static "PastOnce" "AT_FIRST" "[I") (.int 6)) (.int 10)) (by decide +kernel))
    | 7, _ => exact va_eqt (hs (.eq (.elem (.static "PastOnce" "AT_FIRST" "[I") (.int 7)) (.int 12)) (by decide +kernel))
    | 8, _ => exact va_eqt (hs (.eq (.elem (.static "PastOnce" "AT_FIRST" "[I") (.int 8)) (.int 20)) (by decide +kernel))
    | 9, _ => exact va_eqt (hs (.eq (.elem (.static "PastOnce" "AT_FIRST" "[I") (.int 9)) (.int 0)) (by decide +kernel))
    | j + 10, hj => exact absurd hj (by omega)
  obtain ⟨q, h1, h2⟩ := va_Tof (A := lw_A s) (N := 10) (f := fun j => .int (mc_tf [5, 1, 3, 4, 0, 0, 10, 12, 20, 0] j)) (by decide) (hs (.arrayOf (.static "PastOnce" "AT_FIRST" "[I") .int) (by decide +kernel)) (va_eqt (hs (.eq (.length (.static "PastOnce" "AT_FIRST" "[I")) (.int 10)) (by decide +kernel))) hel hA
  exact ⟨q, va_Zref (hts (.laysStatic "PastOnce" "AT_FIRST" "[I") (by decide +kernel)) (hts (.initialized "PastOnce") (by decide +kernel)) h1 hA, h2⟩
set_option maxRecDepth 100000 in
set_option maxHeartbeats 4000000 in
theorem lw_st1 {args : Array Value} {s : State} (hgv : (Jvm.Cond.and given_1 narrow_1).before args s = true) (hts : ∀ w ∈ lw_tbl, w.before args s = true) : ∃ q, va_Z "PastOnce" "LEAST" "[I" (.ref q) (lw_A s) s s.heap ∧ va_T .int q 10 (fun j => .int (mc_tf [0, 0, 1, 0, 0, 0, 0, 0, 1, 0] j)) (lw_A s) s s.heap := by
  have hs := flat_of_before _ hgv
  have hA : ∀ a : Nat, a < s.heap.size → ¬ lw_A s a := fun a h => Nat.not_le.mpr h
  have hel : ∀ j : Nat, j < 10 → (Term.elem (.static "PastOnce" "LEAST" "[I") (.int (Int32.ofNat j))).eval args s none [] s = some (.int (mc_tf [0, 0, 1, 0, 0, 0, 0, 0, 1, 0] j)) := by
    intro j hj
    match j, hj with
    | 0, _ => exact va_eqt (hs (.eq (.elem (.static "PastOnce" "LEAST" "[I") (.int 0)) (.int 0)) (by decide +kernel))
    | 1, _ => exact va_eqt (hs (.eq (.elem (.static "PastOnce" "LEAST" "[I") (.int 1)) (.int 0)) (by decide +kernel))
    | 2, _ => exact va_eqt (hs (.eq (.elem (.static "PastOnce" "LEAST" "[I") (.int 2)) (.int 1)) (by decide +kernel))
    | 3, _ => exact va_eqt (hs (.eq (.elem (.static "PastOnce" "LEAST" "[I") (.int 3)) (.int 0)) (by decide +kernel))
    | 4, _ => exact va_eqt (hs (.eq (.elem (.static "PastOnce" "LEAST" "[I") (.int 4)) (.int 0)) (by decide +kernel))
    | 5, _ => exact va_eqt (hs (.eq (.elem (.static "PastOnce" "LEAST" "[I") (.int 5)) (.int 0)) (by decide +kernel))
    | 6, _ => exact va_eqt (hs (.eq (.elem (.static "PastOnce" "LEAST" "[I") (.int 6)) (.int 0)) (by decide +kernel))
    | 7, _ => exact va_eqt (hs (.eq (.elem (.static "PastOnce" "LEAST" "[I") (.int 7)) (.int 0)) (by decide +kernel))
    | 8, _ => exact va_eqt (hs (.eq (.elem (.static "PastOnce" "LEAST" "[I") (.int 8)) (.int 1)) (by decide +kernel))
    | 9, _ => exact va_eqt (hs (.eq (.elem (.static "PastOnce" "LEAST" "[I") (.int 9)) (.int 0)) (by decide +kernel))
    | j + 10, hj => exact absurd hj (by omega)
  obtain ⟨q, h1, h2⟩ := va_Tof (A := lw_A s) (N := 10) (f := fun j => .int (mc_tf [0, 0, 1, 0, 0, 0, 0, 0, 1, 0] j)) (by decide) (hs (.arrayOf (.static "PastOnce" "LEAST" "[I") .int) (by decide +kernel)) (va_eqt (hs (.eq (.length (.static "PastOnce" "LEAST" "[I")) (.int 10)) (by decide +kernel))) hel hA
  exact ⟨q, va_Zref (hts (.laysStatic "PastOnce" "LEAST" "[I") (by decide +kernel)) (hts (.initialized "PastOnce") (by decide +kernel)) h1 hA, h2⟩
set_option maxRecDepth 100000 in
set_option maxHeartbeats 4000000 in
theorem lw_st2 {args : Array Value} {s : State} (hgv : (Jvm.Cond.and given_1 narrow_1).before args s = true) (hts : ∀ w ∈ lw_tbl, w.before args s = true) : ∃ q, va_Z "PastOnce" "MOST" "[I" (.ref q) (lw_A s) s s.heap ∧ va_T .int q 10 (fun j => .int (mc_tf [20, 9, 9, 9, 4, 1, 99, 12, 60, 31] j)) (lw_A s) s s.heap := by
  have hs := flat_of_before _ hgv
  have hA : ∀ a : Nat, a < s.heap.size → ¬ lw_A s a := fun a h => Nat.not_le.mpr h
  have hel : ∀ j : Nat, j < 10 → (Term.elem (.static "PastOnce" "MOST" "[I") (.int (Int32.ofNat j))).eval args s none [] s = some (.int (mc_tf [20, 9, 9, 9, 4, 1, 99, 12, 60, 31] j)) := by
    intro j hj
    match j, hj with
    | 0, _ => exact va_eqt (hs (.eq (.elem (.static "PastOnce" "MOST" "[I") (.int 0)) (.int 20)) (by decide +kernel))
    | 1, _ => exact va_eqt (hs (.eq (.elem (.static "PastOnce" "MOST" "[I") (.int 1)) (.int 9)) (by decide +kernel))
    | 2, _ => exact va_eqt (hs (.eq (.elem (.static "PastOnce" "MOST" "[I") (.int 2)) (.int 9)) (by decide +kernel))
    | 3, _ => exact va_eqt (hs (.eq (.elem (.static "PastOnce" "MOST" "[I") (.int 3)) (.int 9)) (by decide +kernel))
    | 4, _ => exact va_eqt (hs (.eq (.elem (.static "PastOnce" "MOST" "[I") (.int 4)) (.int 4)) (by decide +kernel))
    | 5, _ => exact va_eqt (hs (.eq (.elem (.static "PastOnce" "MOST" "[I") (.int 5)) (.int 1)) (by decide +kernel))
    | 6, _ => exact va_eqt (hs (.eq (.elem (.static "PastOnce" "MOST" "[I") (.int 6)) (.int 99)) (by decide +kernel))
    | 7, _ => exact va_eqt (hs (.eq (.elem (.static "PastOnce" "MOST" "[I") (.int 7)) (.int 12)) (by decide +kernel))
    | 8, _ => exact va_eqt (hs (.eq (.elem (.static "PastOnce" "MOST" "[I") (.int 8)) (.int 60)) (by decide +kernel))
    | 9, _ => exact va_eqt (hs (.eq (.elem (.static "PastOnce" "MOST" "[I") (.int 9)) (.int 31)) (by decide +kernel))
    | j + 10, hj => exact absurd hj (by omega)
  obtain ⟨q, h1, h2⟩ := va_Tof (A := lw_A s) (N := 10) (f := fun j => .int (mc_tf [20, 9, 9, 9, 4, 1, 99, 12, 60, 31] j)) (by decide) (hs (.arrayOf (.static "PastOnce" "MOST" "[I") .int) (by decide +kernel)) (va_eqt (hs (.eq (.length (.static "PastOnce" "MOST" "[I")) (.int 10)) (by decide +kernel))) hel hA
  exact ⟨q, va_Zref (hts (.laysStatic "PastOnce" "MOST" "[I") (by decide +kernel)) (hts (.initialized "PastOnce") (by decide +kernel)) h1 hA, h2⟩
set_option maxRecDepth 100000 in
set_option maxHeartbeats 4000000 in
theorem lw_st3 {args : Array Value} {s : State} (hgv : (Jvm.Cond.and given_1 narrow_1).before args s = true) (hts : ∀ w ∈ lw_tbl, w.before args s = true) : ∃ q, va_Z "PastOnce$Bodies" "ABOVE" "[I" (.ref q) (lw_A s) s s.heap ∧ va_T .int q 8 (fun j => .int (mc_tf [-1, 0, 0, 2, 1, 3, 0, 6] j)) (lw_A s) s s.heap := by
  have hs := flat_of_before _ hgv
  have hA : ∀ a : Nat, a < s.heap.size → ¬ lw_A s a := fun a h => Nat.not_le.mpr h
  have hel : ∀ j : Nat, j < 8 → (Term.elem (.static "PastOnce$Bodies" "ABOVE" "[I") (.int (Int32.ofNat j))).eval args s none [] s = some (.int (mc_tf [-1, 0, 0, 2, 1, 3, 0, 6] j)) := by
    intro j hj
    match j, hj with
    | 0, _ => exact va_eqt (hs (.eq (.elem (.static "PastOnce$Bodies" "ABOVE" "[I") (.int 0)) (.int (-1))) (by decide +kernel))
    | 1, _ => exact va_eqt (hs (.eq (.elem (.static "PastOnce$Bodies" "ABOVE" "[I") (.int 1)) (.int 0)) (by decide +kernel))
    | 2, _ => exact va_eqt (hs (.eq (.elem (.static "PastOnce$Bodies" "ABOVE" "[I") (.int 2)) (.int 0)) (by decide +kernel))
    | 3, _ => exact va_eqt (hs (.eq (.elem (.static "PastOnce$Bodies" "ABOVE" "[I") (.int 3)) (.int 2)) (by decide +kernel))
    | 4, _ => exact va_eqt (hs (.eq (.elem (.static "PastOnce$Bodies" "ABOVE" "[I") (.int 4)) (.int 1)) (by decide +kernel))
    | 5, _ => exact va_eqt (hs (.eq (.elem (.static "PastOnce$Bodies" "ABOVE" "[I") (.int 5)) (.int 3)) (by decide +kernel))
    | 6, _ => exact va_eqt (hs (.eq (.elem (.static "PastOnce$Bodies" "ABOVE" "[I") (.int 6)) (.int 0)) (by decide +kernel))
    | 7, _ => exact va_eqt (hs (.eq (.elem (.static "PastOnce$Bodies" "ABOVE" "[I") (.int 7)) (.int 6)) (by decide +kernel))
    | j + 8, hj => exact absurd hj (by omega)
  obtain ⟨q, h1, h2⟩ := va_Tof (A := lw_A s) (N := 8) (f := fun j => .int (mc_tf [-1, 0, 0, 2, 1, 3, 0, 6] j)) (by decide) (hs (.arrayOf (.static "PastOnce$Bodies" "ABOVE" "[I") .int) (by decide +kernel)) (va_eqt (hs (.eq (.length (.static "PastOnce$Bodies" "ABOVE" "[I")) (.int 8)) (by decide +kernel))) hel hA
  exact ⟨q, va_Zref (hts (.laysStatic "PastOnce$Bodies" "ABOVE" "[I") (by decide +kernel)) (hts (.initialized "PastOnce$Bodies") (by decide +kernel)) h1 hA, h2⟩
set_option maxRecDepth 100000 in
set_option maxHeartbeats 4000000 in
theorem lw_st4 {args : Array Value} {s : State} (hgv : (Jvm.Cond.and given_1 narrow_1).before args s = true) (hts : ∀ w ∈ lw_tbl, w.before args s = true) : ∃ q, va_Z "PastOnce$Bodies" "OWN" "[I" (.ref q) (lw_A s) s s.heap ∧ va_T .int q 32 (fun j => .int (mc_tf [1, 10, 11, 2, 20, 0, 0, 0, 0, 30, 0, 0, 0, 41, 40, 0, 0, 0, 0, 50, 0, 0, 60, 61, 70, 0, 0, 0, 81, 80, 0, 0] j)) (lw_A s) s s.heap := by
  have hs := flat_of_before _ hgv
  have hA : ∀ a : Nat, a < s.heap.size → ¬ lw_A s a := fun a h => Nat.not_le.mpr h
  have hel : ∀ j : Nat, j < 32 → (Term.elem (.static "PastOnce$Bodies" "OWN" "[I") (.int (Int32.ofNat j))).eval args s none [] s = some (.int (mc_tf [1, 10, 11, 2, 20, 0, 0, 0, 0, 30, 0, 0, 0, 41, 40, 0, 0, 0, 0, 50, 0, 0, 60, 61, 70, 0, 0, 0, 81, 80, 0, 0] j)) := by
    intro j hj
    match j, hj with
    | 0, _ => exact va_eqt (hs (.eq (.elem (.static "PastOnce$Bodies" "OWN" "[I") (.int 0)) (.int 1)) (by decide +kernel))
    | 1, _ => exact va_eqt (hs (.eq (.elem (.static "PastOnce$Bodies" "OWN" "[I") (.int 1)) (.int 10)) (by decide +kernel))
    | 2, _ => exact va_eqt (hs (.eq (.elem (.static "PastOnce$Bodies" "OWN" "[I") (.int 2)) (.int 11)) (by decide +kernel))
    | 3, _ => exact va_eqt (hs (.eq (.elem (.static "PastOnce$Bodies" "OWN" "[I") (.int 3)) (.int 2)) (by decide +kernel))
    | 4, _ => exact va_eqt (hs (.eq (.elem (.static "PastOnce$Bodies" "OWN" "[I") (.int 4)) (.int 20)) (by decide +kernel))
    | 5, _ => exact va_eqt (hs (.eq (.elem (.static "PastOnce$Bodies" "OWN" "[I") (.int 5)) (.int 0)) (by decide +kernel))
    | 6, _ => exact va_eqt (hs (.eq (.elem (.static "PastOnce$Bodies" "OWN" "[I") (.int 6)) (.int 0)) (by decide +kernel))
    | 7, _ => exact va_eqt (hs (.eq (.elem (.static "PastOnce$Bodies" "OWN" "[I") (.int 7)) (.int 0)) (by decide +kernel))
    | 8, _ => exact va_eqt (hs (.eq (.elem (.static "PastOnce$Bodies" "OWN" "[I") (.int 8)) (.int 0)) (by decide +kernel))
    | 9, _ => exact va_eqt (hs (.eq (.elem (.static "PastOnce$Bodies" "OWN" "[I") (.int 9)) (.int 30)) (by decide +kernel))
    | 10, _ => exact va_eqt (hs (.eq (.elem (.static "PastOnce$Bodies" "OWN" "[I") (.int 10)) (.int 0)) (by decide +kernel))
    | 11, _ => exact va_eqt (hs (.eq (.elem (.static "PastOnce$Bodies" "OWN" "[I") (.int 11)) (.int 0)) (by decide +kernel))
    | 12, _ => exact va_eqt (hs (.eq (.elem (.static "PastOnce$Bodies" "OWN" "[I") (.int 12)) (.int 0)) (by decide +kernel))
    | 13, _ => exact va_eqt (hs (.eq (.elem (.static "PastOnce$Bodies" "OWN" "[I") (.int 13)) (.int 41)) (by decide +kernel))
    | 14, _ => exact va_eqt (hs (.eq (.elem (.static "PastOnce$Bodies" "OWN" "[I") (.int 14)) (.int 40)) (by decide +kernel))
    | 15, _ => exact va_eqt (hs (.eq (.elem (.static "PastOnce$Bodies" "OWN" "[I") (.int 15)) (.int 0)) (by decide +kernel))
    | 16, _ => exact va_eqt (hs (.eq (.elem (.static "PastOnce$Bodies" "OWN" "[I") (.int 16)) (.int 0)) (by decide +kernel))
    | 17, _ => exact va_eqt (hs (.eq (.elem (.static "PastOnce$Bodies" "OWN" "[I") (.int 17)) (.int 0)) (by decide +kernel))
    | 18, _ => exact va_eqt (hs (.eq (.elem (.static "PastOnce$Bodies" "OWN" "[I") (.int 18)) (.int 0)) (by decide +kernel))
    | 19, _ => exact va_eqt (hs (.eq (.elem (.static "PastOnce$Bodies" "OWN" "[I") (.int 19)) (.int 50)) (by decide +kernel))
    | 20, _ => exact va_eqt (hs (.eq (.elem (.static "PastOnce$Bodies" "OWN" "[I") (.int 20)) (.int 0)) (by decide +kernel))
    | 21, _ => exact va_eqt (hs (.eq (.elem (.static "PastOnce$Bodies" "OWN" "[I") (.int 21)) (.int 0)) (by decide +kernel))
    | 22, _ => exact va_eqt (hs (.eq (.elem (.static "PastOnce$Bodies" "OWN" "[I") (.int 22)) (.int 60)) (by decide +kernel))
    | 23, _ => exact va_eqt (hs (.eq (.elem (.static "PastOnce$Bodies" "OWN" "[I") (.int 23)) (.int 61)) (by decide +kernel))
    | 24, _ => exact va_eqt (hs (.eq (.elem (.static "PastOnce$Bodies" "OWN" "[I") (.int 24)) (.int 70)) (by decide +kernel))
    | 25, _ => exact va_eqt (hs (.eq (.elem (.static "PastOnce$Bodies" "OWN" "[I") (.int 25)) (.int 0)) (by decide +kernel))
    | 26, _ => exact va_eqt (hs (.eq (.elem (.static "PastOnce$Bodies" "OWN" "[I") (.int 26)) (.int 0)) (by decide +kernel))
    | 27, _ => exact va_eqt (hs (.eq (.elem (.static "PastOnce$Bodies" "OWN" "[I") (.int 27)) (.int 0)) (by decide +kernel))
    | 28, _ => exact va_eqt (hs (.eq (.elem (.static "PastOnce$Bodies" "OWN" "[I") (.int 28)) (.int 81)) (by decide +kernel))
    | 29, _ => exact va_eqt (hs (.eq (.elem (.static "PastOnce$Bodies" "OWN" "[I") (.int 29)) (.int 80)) (by decide +kernel))
    | 30, _ => exact va_eqt (hs (.eq (.elem (.static "PastOnce$Bodies" "OWN" "[I") (.int 30)) (.int 0)) (by decide +kernel))
    | 31, _ => exact va_eqt (hs (.eq (.elem (.static "PastOnce$Bodies" "OWN" "[I") (.int 31)) (.int 0)) (by decide +kernel))
    | j + 32, hj => exact absurd hj (by omega)
  obtain ⟨q, h1, h2⟩ := va_Tof (A := lw_A s) (N := 32) (f := fun j => .int (mc_tf [1, 10, 11, 2, 20, 0, 0, 0, 0, 30, 0, 0, 0, 41, 40, 0, 0, 0, 0, 50, 0, 0, 60, 61, 70, 0, 0, 0, 81, 80, 0, 0] j)) (by decide) (hs (.arrayOf (.static "PastOnce$Bodies" "OWN" "[I") .int) (by decide +kernel)) (va_eqt (hs (.eq (.length (.static "PastOnce$Bodies" "OWN" "[I")) (.int 32)) (by decide +kernel))) hel hA
  exact ⟨q, va_Zref (hts (.laysStatic "PastOnce$Bodies" "OWN" "[I") (by decide +kernel)) (hts (.initialized "PastOnce$Bodies") (by decide +kernel)) h1 hA, h2⟩
theorem lw_statics {args : Array Value} {s : State} (hgv : (Jvm.Cond.and given_1 narrow_1).before args s = true) (hts : ∀ w ∈ lw_tbl, w.before args s = true) : ∃ ρ0 : Nat → Option Nat, (∀ k q, ρ0 k = some q → 1000 ≤ k) ∧ mc_ST ρ0 (lw_A s) s := by
  obtain ⟨q0, z0, t0⟩ := lw_st0 hgv hts
  obtain ⟨q1, z1, t1⟩ := lw_st1 hgv hts
  obtain ⟨q2, z2, t2⟩ := lw_st2 hgv hts
  obtain ⟨q3, z3, t3⟩ := lw_st3 hgv hts
  obtain ⟨q4, z4, t4⟩ := lw_st4 hgv hts
  refine ⟨fun k => if k = 1000 then some q0 else if k = 1001 then some q1 else if k = 1002 then some q2 else if k = 1003 then some q3 else if k = 1004 then some q4 else none, fun k q hk => ?_, fun k t nm h1 h2 => ?_⟩
  · by_cases h : 1000 ≤ k
    · exact h
    · exfalso
      simp only [show ¬ k = 1000 by omega, show ¬ k = 1001 by omega, show ¬ k = 1002 by omega, show ¬ k = 1003 by omega, show ¬ k = 1004 by omega, if_false] at hk
      cases hk
  · match k, h1, h2 with
    | 0, h1, h2 => cases h1; cases h2; exact ⟨q0, rfl, z0, t0⟩
    | 1, h1, h2 => cases h1; cases h2; exact ⟨q1, rfl, z1, t1⟩
    | 2, h1, h2 => cases h1; cases h2; exact ⟨q2, rfl, z2, t2⟩
    | 3, h1, h2 => cases h1; cases h2; exact ⟨q3, rfl, z3, t3⟩
    | 4, h1, h2 => cases h1; cases h2; exact ⟨q4, rfl, z4, t4⟩
    | k + 5, h1, h2 => simp [mc_tabs] at h1
theorem lw_K {args : Array Value} {s : State} (hts : ∀ w ∈ lw_tbl, w.before args s = true) : ∃ D : va_G, va_K D vwCl [] s := by
  obtain ⟨c0, iS0, hKn0⟩ := u_known (C := RX0) (T := TX0) (N := 10) (n := 10) hts (fun w hw => (List.mem_filter.mp ((mc_cls 0 _ rfl).1 w hw)).1) (hts (.instantiable RX0 10) (List.mem_of_getElem? (i := 268) (by decide +kernel)))
  obtain ⟨c1, iS1, hKn1⟩ := u_known (C := RX1) (T := TX1) (N := 5) (n := 5) hts (fun w hw => (List.mem_filter.mp ((mc_cls 1 _ rfl).1 w hw)).1) (hts (.instantiable RX1 5) (List.mem_of_getElem? (i := 388) (by decide +kernel)))
  obtain ⟨c2, iS2, hKn2⟩ := u_known (C := RX2) (T := TX2) (N := 8) (n := 8) hts (fun w hw => (List.mem_filter.mp ((mc_cls 2 _ rfl).1 w hw)).1) (hts (.instantiable RX2 8) (List.mem_of_getElem? (i := 179) (by decide +kernel)))
  obtain ⟨c3, iS3, hKn3⟩ := u_known (C := RX3) (T := TX3) (N := 13) (n := 13) hts (fun w hw => (List.mem_filter.mp ((mc_cls 3 _ rfl).1 w hw)).1) (hts (.instantiable RX3 13) (List.mem_of_getElem? (i := 336) (by decide +kernel)))
  obtain ⟨c4, iS4, hKn4⟩ := u_known (C := RX5) (T := TX5) (N := 8) (n := 8) hts (fun w hw => (List.mem_filter.mp ((mc_cls 4 _ rfl).1 w hw)).1) (hts (.instantiable RX5 8) (List.mem_of_getElem? (i := 262) (by decide +kernel)))
  obtain ⟨c5, iS5, hKn5⟩ := u_known (C := RX6) (T := TX6) (N := 6) (n := 6) hts (fun w hw => (List.mem_filter.mp ((mc_cls 5 _ rfl).1 w hw)).1) (hts (.instantiable RX6 6) (List.mem_of_getElem? (i := 173) (by decide +kernel)))
  obtain ⟨c6, iS6, hKn6⟩ := u_known (C := RX7) (T := TX7) (N := 4) (n := 4) hts (fun w hw => (List.mem_filter.mp ((mc_cls 6 _ rfl).1 w hw)).1) (hts (.instantiable RX7 4) (List.mem_of_getElem? (i := 232) (by decide +kernel)))
  obtain ⟨c7, iS7, hKn7⟩ := u_known (C := RX8) (T := TX8) (N := 5) (n := 5) hts (fun w hw => (List.mem_filter.mp ((mc_cls 7 _ rfl).1 w hw)).1) (hts (.instantiable RX8 5) (List.mem_of_getElem? (i := 412) (by decide +kernel)))
  obtain ⟨c8, iS8, hKn8⟩ := u_known (C := RX9) (T := TX9) (N := 10) (n := 10) hts (fun w hw => (List.mem_filter.mp ((mc_cls 8 _ rfl).1 w hw)).1) (hts (.instantiable RX9 10) (List.mem_of_getElem? (i := 122) (by decide +kernel)))
  obtain ⟨c9, iS9, hKn9⟩ := u_known (C := RX10) (T := TX10) (N := 11) (n := 11) hts (fun w hw => (List.mem_filter.mp ((mc_cls 9 _ rfl).1 w hw)).1) (hts (.instantiable RX10 11) (List.mem_of_getElem? (i := 114) (by decide +kernel)))
  obtain ⟨c10, iS10, hKn10⟩ := u_known (C := RX11) (T := TX11) (N := 56) (n := 56) hts (fun w hw => (List.mem_filter.mp ((mc_cls 10 _ rfl).1 w hw)).1) (hts (.instantiable RX11 56) (List.mem_of_getElem? (i := 1097) (by decide +kernel)))
  refine ⟨(fun k => if k = 0 then c0 else if k = 1 then c1 else if k = 2 then c2 else if k = 3 then c3 else if k = 4 then c4 else if k = 5 then c5 else if k = 6 then c6 else if k = 7 then c7 else if k = 8 then c8 else if k = 9 then c9 else c10, fun k => if k = 0 then iS0 else if k = 1 then iS1 else if k = 2 then iS2 else if k = 3 then iS3 else if k = 4 then iS4 else if k = 5 then iS5 else if k = 6 then iS6 else if k = 7 then iS7 else if k = 8 then iS8 else if k = 9 then iS9 else iS10), ?_, fun k q h => by simp at h⟩
  intro k q hq
  match k, hq with
  | 0, hq => cases hq; exact hKn0
  | 1, hq => cases hq; exact hKn1
  | 2, hq => cases hq; exact hKn2
  | 3, hq => cases hq; exact hKn3
  | 4, hq => cases hq; exact hKn4
  | 5, hq => cases hq; exact hKn5
  | 6, hq => cases hq; exact hKn6
  | 7, hq => cases hq; exact hKn7
  | 8, hq => cases hq; exact hKn8
  | 9, hq => cases hq; exact hKn9
  | 10, hq => cases hq; exact hKn10
  | k + 11, hq => simp [vwCl] at hq
/-- what is left to show: the pairs, and that the two objects as made are related -/
def lw_Start (Rel : lw_R) : Prop := lw_ROk Rel ∧ law_P Rel ∧ ∃ (hX hM : mc_H) (f cX nX cM nM kc kn : Nat), mc_run PM 60 f 108 [.ref 0] [.inr (9, [.null, .null, .null, .null, .null, .null, .null, .null, .null, .null, .int 0])] = some (none, hX, cX, nX) ∧ mc_run PM 60 f 156 [.ref 0] [.inr (10, [.int 0, .int 0, .null, .int 0, .null, .int 0, .int 0, .null, .null, .null, .null, .null, .int 0, .int 0, .int 0, .int 0, .int 0, .null, .null, .null, .null, .null, .null, .null, .int 0, .null, .null, .null, .null, .int 0, .int 0, .null, .int 0, .int 0, .int 0, .null, .long 0, .null, .null, .null, .int 0, .null, .null, .null, .null, .int 0, .null, .null, .int 0, .null, .int 0, .null, .null, .null, .null, .null])] = some (none, hM, cM, nM) ∧ Rel hX hM kc kn ∧ 2 + cX + cM + kc ≤ 600000 ∧ 67 + nX + nM + kn ≤ 7302250
set_option maxHeartbeats 8000000 in
set_option maxRecDepth 100000 in
theorem whole_of {Rel : lw_R} (hSt : lw_Start Rel) {p : Program} {e : Env} {s : State} {m : MethodId} {below : List Frame} {meth : Method} {c : Code} (l : Launch) (hflags : l.flags = flags0) {b L : Nat} {xs : Nat → Int32} (hL : L ≤ 3072) (C0 : lw_At p s m meth c b L xs) : W p l e room_1 s m #[Value.ref b] below meth c s.heap [] 0 0 (lw_Z below #[Value.ref b] s) (entryFrame m ([Value.ref b] : List Value).toArray 4) := by
  obtain ⟨hROk, hP, hX, hM, f, cX, nX, cM, nM, kc, kn, rX, rM, hR, hbc, hbn⟩ := hSt
  obtain ⟨hx, hb, hr, hml, hown, htl, hXs, hbl, hlocks, hgv⟩ := C0
  have hts : ∀ w ∈ mc_gw, w.before #[Value.ref b] s = true := fun w hw => htl w (List.mem_filter.mp hw).1
  obtain ⟨D, hK⟩ := lw_K htl
  obtain ⟨ρ0, hdom, hST⟩ := lw_statics hgv htl
  have hNW : mc_NW s := by
    refine ⟨fun w hw => ?_, va_AOA.of (htl (.arrayOver (.array .int)) (by decide +kernel))⟩
    have h1 := htl w (List.mem_filter.mp hw).1
    have h2 := (List.mem_filter.mp hw).2
    cases w <;> first | (cases h2; done) | exact va_Nw.of rfl h1
  have C : lw_C p s m meth c D b L xs := ⟨hx, hb, hml, hown, hts, hNW, hK, hXs, hbl, hL⟩
  have hh0 : mc_hr s ρ0 [] [] := ⟨rfl, by decide, fun i o h => by simp at h, fun k q h => Or.inr (hdom k q h)⟩
  have hP0 : va_P D vwCl [] s.heap := fun k q h => by simp at h
  have hD0 : va_D (lw_A s) [] := ⟨fun i j x z h => by simp at h, fun k q h => by simp at h⟩
  have hW0 : mc_W2 D s (lw_A s) ρ0 [] ρ0 [] s.heap [] := ⟨[], [], hP0, hD0, hh0, hP0, hD0, hh0, fun i j x z h => by simp at h, va_S.rf⟩
  have hl := lv_entry ([.ref b]) (n := 4) (Nat.le_of_ble_eq_true rfl)
  rw [lg_entry_eq]
  generalize (lg_sl ([.ref b]) ++ List.replicate (4 - (lg_sl ([.ref b])).length) Slot.unset).toArray = ls at hl ⊢
  have hl : lv_has ls 4 [(0, .ref b)] := hl
  have hadd : ∀ q : Nat, mc_ext ρ0 (mc_add ρ0 0 q) := fun q k q' hk => by
    have := hdom k q' hk
    have e9 : ¬ k = 0 := by omega
    simp [mc_add, e9, hk]
  refine law_new2 (vs := [.null, .null, .null, .null, .null, .null, .null, .null, .null, .null, .int 0]) (ci := 9) (rest := []) hx hb hown hts hK (fun _ h => h) hW0 rfl (mc_wd_in (ps := [113]) (k := 0) (by decide +kernel)) (mc_wd_in (ps := [114]) (k := 0) (by decide +kernel)) (mc_wd_in (ps := [98]) (k := 0) (by decide +kernel)) (by simp) (by decide +kernel) ⟨by decide, by decide⟩ (dL okL_0 0 rfl) ?_
  intro qx H1 hW1
  refine lv_dup hx hb (dL okL_0 1 rfl) rfl ?_
  refine law_callI (y2 := PM 108) (d := 60) (r := [.ref qx]) hx hb hml hown hts hNW hK (fun _ h => h) hl.1 hW1.swap (hST.mono (hadd qx)) (by simp [mc_add]) (mc_met2 mc_cls mc_PM mc_PMplain l D 60 f _ _ _ _ rX) (mc_calb_spec (ps := [117, 98]) (k := 0) (by decide +kernel)) rfl rfl (mc_wd_in (ps := [115]) (k := 0) (by decide +kernel)) (mc_wd_in (ps := [116]) (k := 0) (by decide +kernel)) (by simp [Value.category]) (by decide) (by decide) ⟨by show 0 + 1 + cX ≤ 600000; omega, by show 0 + 11 + nX ≤ 7302250; omega⟩ (dL okL_0 2 rfl) ?_
  intro ρX v1 H2 locs2 hx2 hor2 hW2
  obtain rfl := (hor2 : _ = none)
  refine lv_astore_n (lv' := [(1, .ref qx), (0, .ref b)]) hx hb (dL okL_0 3 rfl) rfl hl (by decide) rfl (fun ls hl => ?_)
  refine law_new2 (vs := [.int 0, .int 0, .null, .int 0, .null, .int 0, .int 0, .null, .null, .null, .null, .null, .int 0, .int 0, .int 0, .int 0, .int 0, .null, .null, .null, .null, .null, .null, .null, .int 0, .null, .null, .null, .null, .int 0, .int 0, .null, .int 0, .int 0, .int 0, .null, .long 0, .null, .null, .null, .int 0, .null, .null, .null, .null, .int 0, .null, .null, .int 0, .null, .int 0, .null, .null, .null, .null, .null]) (ci := 10) (rest := []) hx hb hown hts hK (fun _ h => h) hW2 rfl (mc_wd_in (ps := [1096]) (k := 0) (by decide +kernel)) (mc_wd_in (ps := [1097]) (k := 0) (by decide +kernel)) (mc_wd_in (ps := [108]) (k := 0) (by decide +kernel)) (by simp) (by decide +kernel) ⟨by show 0 + 1 + cX + 1 ≤ 600000; omega, by show 0 + 11 + nX + 56 ≤ 7302250; omega⟩ (dL okL_0 4 rfl) ?_
  intro qm H3 hW3
  refine lv_dup hx hb (dL okL_0 5 rfl) rfl ?_
  refine law_callI (y2 := PM 156) (d := 60) (r := [.ref qm]) hx hb hml hown hts hNW hK (fun _ h => h) hl.1 hW3.swap (hST.mono (hadd qm)) (by simp [mc_add]) (mc_met2 mc_cls mc_PM mc_PMplain l D 60 f _ _ _ _ rM) (mc_calb_spec (ps := [1100, 108]) (k := 0) (by decide +kernel)) rfl rfl (mc_wd_in (ps := [1098]) (k := 0) (by decide +kernel)) (mc_wd_in (ps := [1099]) (k := 0) (by decide +kernel)) (by simp [Value.category]) (by decide) (by decide) ⟨by show 0 + 1 + cX + 1 + cM ≤ 600000; omega, by show 0 + 11 + nX + 56 + nM ≤ 7302250; omega⟩ (dL okL_0 6 rfl) ?_
  intro ρM v2 H4 locs4 hx4 hor4 hW4
  obtain rfl := (hor4 : _ = none)
  refine lv_astore_n (lv' := [(2, .ref qm), (1, .ref qx), (0, .ref b)]) hx hb (dL okL_0 7 rfl) rfl hl (by decide) rfl (fun ls hl => ?_)
  refine lv_iconst (v := 0) hx hb (dL okL_0 8 rfl) (by decide) ?_
  refine lv_istore_n (lv' := [(3, .int 0), (2, .ref qm), (1, .ref qx), (0, .ref b)]) hx hb (dL okL_0 9 rfl) rfl hl (by decide) rfl (fun ls hl => ?_)
  refine law_loop C hr hlocks hROk hP (L + 1) 0 ls H4 locs4 _ _ (Nat.zero_le _) (by omega) ⟨ρX, ρM, qx, qm, hX, hM, kc, kn, hR, hx2 _ _ (by simp [mc_add]), hx4 _ _ (by simp [mc_add]), hW4.swap, (hST.mono (hadd qx)).mono hx2, (hST.mono (hadd qm)).mono hx4, lv_sub hl [3, 2, 1, 0] rfl, ?_, ?_⟩
  · show 0 + 1 + cX + 1 + cM + kc ≤ 600000
    omega
  · show 0 + 11 + nX + 56 + nM + kn ≤ 7302250
    omega
