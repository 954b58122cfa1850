theorem dL {T : List (Nat × Instr × Nat)} (hT : T.all (fun e => decide (decode code e.1 = .ok (e.2.1, e.2.2))) = true) (i : Nat) {pc : Nat} {ins : Instr} {len : Nat} (h : T[i]? = some (pc, ins, len)) : decode code pc = .ok (ins, len) := by
  generalize code = cd at hT ⊢
  have h1 := List.all_eq_true.mp hT (pc, ins, len) (List.mem_of_getElem? h)
  simpa only [decide_eq_true_eq] using h1
def law_cwB (i0 : Nat) (y2 : mc_M) (n : Nat) (ps : List Nat) : Bool := mc_wd ps 0 (.methodLink R_law i0 y2.1) && (mc_wd ps 1 (.instanceMethod y2.1) && (mc_wd ps 2 (.selects y2.1.cls y2.1 y2.1) && mc_calb y2 n ps 3))
theorem law_cw_of {i0 : Nat} {y2 : mc_M} {n : Nat} (ps : List Nat) (h : law_cwB i0 y2 n ps = true) : law_cw R_law i0 y2 n := by
  obtain ⟨h1, h⟩ := mc_and h
  obtain ⟨h2, h⟩ := mc_and h
  obtain ⟨h3, h4⟩ := mc_and h
  exact ⟨mc_wd_in h1, mc_wd_in h2, mc_wd_in h3, mc_calb_spec h4⟩
abbrev lw_A (s : State) : Nat → Prop := fun q => s.heap.size ≤ q
def lw_C (p : Program) (s : State) (m : MethodId) (meth : Method) (c : Code) (D : va_G) (b L : Nat) (xs : Nat → Int32) : Prop :=
  p.tables.exec = Jvm.exec ∧ c.code = code ∧ c.maxLocals = 4 ∧ s.vm.findClass R_law = some m.cls ∧ (∀ w ∈ mc_gw, w.before #[Value.ref b] s = true) ∧ mc_NW s ∧ va_K D vwCl [] s ∧ va_X b L xs s s.heap ∧ b < s.heap.size ∧ L ≤ 3072
/-- the class and the reference are related, with so many cells and slots still to be made -/
abbrev lw_R : Type := mc_H → mc_H → Nat → Nat → Prop
def lw_S (D : va_G) (s : State) (b : Nat) (Rel : lw_R) (i : Nat) (ls : Array Slot) (H : Heap) (locs : List Loc) (cells slots : Nat) : Prop := ∃ (ρ1 ρ2 : Nat → Option Nat) (q1 q2 : Nat) (hX hM : mc_H) (kc kn : Nat), Rel hX hM kc kn ∧ ρ1 0 = some q1 ∧ ρ2 0 = some q2 ∧ mc_W2 D s (lw_A s) ρ1 hX ρ2 hM H locs ∧ mc_ST ρ1 (lw_A s) s ∧ mc_ST ρ2 (lw_A s) s ∧ lv_has ls 4 [(0, .ref b), (1, .ref q1), (2, .ref q2), (3, .int (nI i))] ∧ cells + kc ≤ 600000 ∧ slots + kn ≤ 7302250
/-- both answer the same int, and stay related -/
def pairI (Rel : lw_R) (yX yM : Nat) (as : List Value) : Prop := ∀ hX hM kc kn, Rel hX hM kc kn → ∃ (v : Int32) (hX' hM' : mc_H) (c n : Nat), Ev 60 yX (.ref 0 :: as) hX (some (.int v), hX', c, n) ∧ Ev 60 yM (.ref 0 :: as) hM (some (.int v), hM', 0, 0) ∧ c ≤ kc ∧ n ≤ kn ∧ Rel hX' hM' (kc - c) (kn - n)
def pairL (Rel : lw_R) (yX yM : Nat) (as : List Value) : Prop := ∀ hX hM kc kn, Rel hX hM kc kn → ∃ (v : Int64) (hX' hM' : mc_H) (c n : Nat), Ev 60 yX (.ref 0 :: as) hX (some (.long v), hX', c, n) ∧ Ev 60 yM (.ref 0 :: as) hM (some (.long v), hM', 0, 0) ∧ c ≤ kc ∧ n ≤ kn ∧ Rel hX' hM' (kc - c) (kn - n)
def lw_ROk (Rel : lw_R) : Prop := ∀ hX hM kc kn, Rel hX hM kc kn → (∃ fs, hX[0]? = some (.inr (9, fs))) ∧ ∃ fs, hM[0]? = some (.inr (10, fs))
theorem Ev.ok {d y : Nat} {as : List Value} {h : mc_H} {R : mc_R} (l : Launch) (D : va_G) (hE : Ev d y as h R) : mc_Ok l D d (PM y) as h R := by
  obtain ⟨F, hF⟩ := hE
  exact mc_met2 mc_cls mc_PM mc_PMplain l D d F y as h R (hF F (Nat.le_refl _))
theorem mc_W2.S {D : va_G} {s : State} {A : Nat → Prop} {ρ1 ρ2 : Nat → Option Nat} {h1 h2 : mc_H} {H : Heap} {locs : List Loc} (h : mc_W2 D s A ρ1 h1 ρ2 h2 H locs) : va_S A s.heap H locs := by
  obtain ⟨ws1, ws2, a1, a2, a3, b1, b2, b3, hd, hS⟩ := h
  exact hS
theorem law_ix {i j L : Nat} {v : Int32} (hi : i + 6 ≤ L) (hL : L ≤ 3072) (hj : j < 6) (hv : v = Int32.ofNat j) : vp_in (nI i + v) L ∧ (nI i + v).toNatClampNeg = i + j := by
  have e : nI i + v = nI (i + j) := by
    rw [hv]
    show Int32.ofNat i + Int32.ofNat j = Int32.ofNat (i + j)
    rw [Int32.ofNat_add]
  rw [e]
  exact ⟨vp_in_nI (by omega) (by omega), Int32.toNatClampNeg_ofNat_of_lt (by omega)⟩
section LC
variable {p : Program} {l : Launch} {e : Env} {s : State} {m : MethodId} {below : List Frame} {meth : Method} {c : Code} {Q : State → Prop} {D : va_G} {b L : Nat} {xs : Nat → Int32} {H : Heap} {locs : List Loc} {ls : Array Slot} {cells slots i : Nat} {Rel : lw_R} {st : List Value}
theorem law_arg (C : lw_C p s m meth c D b L xs) (hi : i + 6 ≤ L) {q1 q2 : Nat} (hl : lv_has ls 4 [(0, .ref b), (1, .ref q1), (2, .ref q2), (3, .int (nI i))]) (hS : va_S (lw_A s) s.heap H locs) {pc j : Nat} {z : Int} (hj : j < 6) (hz : Int32.ofInt z = Int32.ofNat j) (d0 : decode code pc = .ok (.aload_n 0, 1)) (d1 : decode code (pc + 1) = .ok (.iload_n 3, 1)) (d2 : decode code (pc + 2) = .ok (.iconst z, 1)) (d3 : decode code (pc + 3) = .ok (.iadd, 1)) (d4 : decode code (pc + 4) = .ok (.iaload, 1))
    (kk : W p l e room_1 s m #[Value.ref b] below meth c H locs cells slots Q (F0 m (pc + 5) ls (.int (xs (i + j)) :: st))) : W p l e room_1 s m #[Value.ref b] below meth c H locs cells slots Q (F0 m pc ls st) := by
  obtain ⟨hx, hb, hml, hown, hts, hNW, hK, hX, hbl, hL⟩ := C
  obtain ⟨g1, g2⟩ := law_ix hi hL hj hz
  refine lv_aload_n hx hb d0 rfl (lv_at hl 0 rfl) ?_
  refine lv_iload_n hx hb d1 rfl (lv_at hl 3 rfl) ?_
  refine lv_iconst hx hb d2 rfl ?_
  refine lv_iadd hx hb d3 ?_
  refine va_sld hx hb hX hbl (Nat.not_le.mpr hbl) hS g1 d4 ?_
  rw [g2]
  exact kk
theorem law_cmp (v : Int64) : lg_cmp v v = 0 := by simp [lg_cmp]
set_option maxHeartbeats 4000000 in
theorem law_case_0 (C : lw_C p s m meth c D b L xs) (hROk : lw_ROk Rel) (hi : i + 6 ≤ L) (hS : lw_S D s b Rel i ls H locs cells slots) (hp : pairI Rel 109 168 [.int (xs (i + 1)), .int (xs (i + 2))]) (kk : ∀ (H' : Heap) (locs' : List Loc) (cells' slots' : Nat), lw_S D s b Rel i ls H' locs' cells' slots' → W p l e room_1 s m #[Value.ref b] below meth c H' locs' cells' slots' Q (F0 m 1307 ls [])) : W p l e room_1 s m #[Value.ref b] below meth c H locs cells slots Q (F0 m 200 ls []) := by
  obtain ⟨ρ1, ρ2, q1, q2, hX, hM, kc, kn, hR, e1, e2, hW, hT1, hT2, hl, hkc, hkn⟩ := hS
  obtain ⟨v, hX', hM', c1, n1, eX, eM, hc1, hn1, hR'⟩ := hp hX hM kc kn hR
  obtain ⟨⟨fsX, hgX⟩, fsM, hgM⟩ := hROk hX hM kc kn hR
  obtain ⟨hx, hb, hml, hown, hts, hNW, hK, hXs, hbl, hL⟩ := id C
  refine lv_aload_n hx hb (dL okL_0 22 rfl) rfl (lv_at hl 1 rfl) ?_
  refine law_arg (j := 1) C hi hl hW.S (by decide) (by decide) (dL okL_0 23 rfl) (dL okL_0 24 rfl) (dL okL_1 0 rfl) (dL okL_1 1 rfl) (dL okL_1 2 rfl) ?_
  refine law_arg (j := 2) C hi hl hW.S (by decide) (by decide) (dL okL_1 3 rfl) (dL okL_1 4 rfl) (dL okL_1 5 rfl) (dL okL_1 6 rfl) (dL okL_1 7 rfl) ?_
  refine law_callV (as := [.int (xs (i + 1)), .int (xs (i + 2))]) (r := []) (y2 := PM 109) (d := 60) hx hb hml hown hts hNW hK (fun _ h => h) hl.1 hW hT1 e1 (Ev.ok l D eX) (by simp) hgX rfl rfl (law_cw_of (n := 2) [467, 468, 469, 470, 98] (by decide +kernel)) (by decide) (by decide) (by decide) ⟨by show cells + c1 ≤ 600000; omega, by show slots + n1 ≤ 7302250; omega⟩ (dL okL_1 8 rfl) ?_
  intro ρ3 v3 H3 locs3 hx3 hor3 hW3
  obtain ⟨_, rfl, rfl⟩ := hor3
  refine lv_aload_n hx hb (dL okL_1 9 rfl) rfl (lv_at hl 2 rfl) ?_
  refine law_arg (j := 1) C hi hl hW3.S (by decide) (by decide) (dL okL_1 10 rfl) (dL okL_1 11 rfl) (dL okL_1 12 rfl) (dL okL_1 13 rfl) (dL okL_1 14 rfl) ?_
  refine law_arg (j := 2) C hi hl hW3.S (by decide) (by decide) (dL okL_1 15 rfl) (dL okL_1 16 rfl) (dL okL_1 17 rfl) (dL okL_1 18 rfl) (dL okL_1 19 rfl) ?_
  refine law_callV (as := [.int (xs (i + 1)), .int (xs (i + 2))]) (r := [.int v]) (y2 := PM 168) (d := 60) hx hb hml hown hts hNW hK (fun _ h => h) hl.1 hW3.swap hT2 e2 (Ev.ok l D eM) (by simp) hgM rfl rfl (law_cw_of (n := 2) [1272, 1273, 1274, 1275, 108] (by decide +kernel)) (by simp [Value.category]) (by decide) (by decide) ⟨by show cells + c1 + 0 ≤ 600000; omega, by show slots + n1 + 0 ≤ 7302250; omega⟩ (dL okL_1 20 rfl) ?_
  intro ρ4 v4 H4 locs4 hx4 hor4 hW4
  obtain ⟨_, rfl, rfl⟩ := hor4
  refine lv_icmp_eq (tgt := 1307) hx hb (dL okL_1 21 rfl) (by decide) (fun _ => ?_) (fun hne => absurd rfl hne)
  exact kk H4 locs4 _ _ ⟨ρ3, ρ4, q1, q2, hX', hM', kc - c1, kn - n1, hR', hx3 _ _ e1, hx4 _ _ e2, hW4.swap, hT1.mono hx3, hT2.mono hx4, hl, by show cells + c1 + 0 + (kc - c1) ≤ 600000; omega, by show slots + n1 + 0 + (kn - n1) ≤ 7302250; omega⟩
set_option maxHeartbeats 4000000 in
theorem law_case_1 (C : lw_C p s m meth c D b L xs) (hROk : lw_ROk Rel) (hi : i + 6 ≤ L) (hS : lw_S D s b Rel i ls H locs cells slots) (hp : pairI Rel 110 169 [.int (xs (i + 1)), .int (xs (i + 2)), .int (xs (i + 3))]) (kk : ∀ (H' : Heap) (locs' : List Loc) (cells' slots' : Nat), lw_S D s b Rel i ls H' locs' cells' slots' → W p l e room_1 s m #[Value.ref b] below meth c H' locs' cells' slots' Q (F0 m 1307 ls [])) : W p l e room_1 s m #[Value.ref b] below meth c H locs cells slots Q (F0 m 233 ls []) := by
  obtain ⟨ρ1, ρ2, q1, q2, hX, hM, kc, kn, hR, e1, e2, hW, hT1, hT2, hl, hkc, hkn⟩ := hS
  obtain ⟨v, hX', hM', c1, n1, eX, eM, hc1, hn1, hR'⟩ := hp hX hM kc kn hR
  obtain ⟨⟨fsX, hgX⟩, fsM, hgM⟩ := hROk hX hM kc kn hR
  obtain ⟨hx, hb, hml, hown, hts, hNW, hK, hXs, hbl, hL⟩ := id C
  refine lv_aload_n hx hb (dL okL_1 24 rfl) rfl (lv_at hl 1 rfl) ?_
  refine law_arg (j := 1) C hi hl hW.S (by decide) (by decide) (dL okL_2 0 rfl) (dL okL_2 1 rfl) (dL okL_2 2 rfl) (dL okL_2 3 rfl) (dL okL_2 4 rfl) ?_
  refine law_arg (j := 2) C hi hl hW.S (by decide) (by decide) (dL okL_2 5 rfl) (dL okL_2 6 rfl) (dL okL_2 7 rfl) (dL okL_2 8 rfl) (dL okL_2 9 rfl) ?_
  refine law_arg (j := 3) C hi hl hW.S (by decide) (by decide) (dL okL_2 10 rfl) (dL okL_2 11 rfl) (dL okL_2 12 rfl) (dL okL_2 13 rfl) (dL okL_2 14 rfl) ?_
  refine law_callV (as := [.int (xs (i + 1)), .int (xs (i + 2)), .int (xs (i + 3))]) (r := []) (y2 := PM 110) (d := 60) hx hb hml hown hts hNW hK (fun _ h => h) hl.1 hW hT1 e1 (Ev.ok l D eX) (by simp) hgX rfl rfl (law_cw_of (n := 3) [483, 484, 485, 486, 98] (by decide +kernel)) (by decide) (by decide) (by decide) ⟨by show cells + c1 ≤ 600000; omega, by show slots + n1 ≤ 7302250; omega⟩ (dL okL_2 15 rfl) ?_
  intro ρ3 v3 H3 locs3 hx3 hor3 hW3
  obtain ⟨_, rfl, rfl⟩ := hor3
  refine lv_aload_n hx hb (dL okL_2 16 rfl) rfl (lv_at hl 2 rfl) ?_
  refine law_arg (j := 1) C hi hl hW3.S (by decide) (by decide) (dL okL_2 17 rfl) (dL okL_2 18 rfl) (dL okL_2 19 rfl) (dL okL_2 20 rfl) (dL okL_2 21 rfl) ?_
  refine law_arg (j := 2) C hi hl hW3.S (by decide) (by decide) (dL okL_2 22 rfl) (dL okL_2 23 rfl) (dL okL_2 24 rfl) (dL okL_3 0 rfl) (dL okL_3 1 rfl) ?_
  refine law_arg (j := 3) C hi hl hW3.S (by decide) (by decide) (dL okL_3 2 rfl) (dL okL_3 3 rfl) (dL okL_3 4 rfl) (dL okL_3 5 rfl) (dL okL_3 6 rfl) ?_
  refine law_callV (as := [.int (xs (i + 1)), .int (xs (i + 2)), .int (xs (i + 3))]) (r := [.int v]) (y2 := PM 169) (d := 60) hx hb hml hown hts hNW hK (fun _ h => h) hl.1 hW3.swap hT2 e2 (Ev.ok l D eM) (by simp) hgM rfl rfl (law_cw_of (n := 3) [1283, 1284, 1285, 1286, 108] (by decide +kernel)) (by simp [Value.category]) (by decide) (by decide) ⟨by show cells + c1 + 0 ≤ 600000; omega, by show slots + n1 + 0 ≤ 7302250; omega⟩ (dL okL_3 7 rfl) ?_
  intro ρ4 v4 H4 locs4 hx4 hor4 hW4
  obtain ⟨_, rfl, rfl⟩ := hor4
  refine lv_icmp_eq (tgt := 1307) hx hb (dL okL_3 8 rfl) (by decide) (fun _ => ?_) (fun hne => absurd rfl hne)
  exact kk H4 locs4 _ _ ⟨ρ3, ρ4, q1, q2, hX', hM', kc - c1, kn - n1, hR', hx3 _ _ e1, hx4 _ _ e2, hW4.swap, hT1.mono hx3, hT2.mono hx4, hl, by show cells + c1 + 0 + (kc - c1) ≤ 600000; omega, by show slots + n1 + 0 + (kn - n1) ≤ 7302250; omega⟩
set_option maxHeartbeats 4000000 in
theorem law_case_2 (C : lw_C p s m meth c D b L xs) (hROk : lw_ROk Rel) (hi : i + 6 ≤ L) (hS : lw_S D s b Rel i ls H locs cells slots) (hp : pairI Rel 112 177 [.int (xs (i + 1)), .int (xs (i + 2)), .int (xs (i + 3))]) (kk : ∀ (H' : Heap) (locs' : List Loc) (cells' slots' : Nat), lw_S D s b Rel i ls H' locs' cells' slots' → W p l e room_1 s m #[Value.ref b] below meth c H' locs' cells' slots' Q (F0 m 1307 ls [])) : W p l e room_1 s m #[Value.ref b] below meth c H locs cells slots Q (F0 m 276 ls []) := by
  obtain ⟨ρ1, ρ2, q1, q2, hX, hM, kc, kn, hR, e1, e2, hW, hT1, hT2, hl, hkc, hkn⟩ := hS
  obtain ⟨v, hX', hM', c1, n1, eX, eM, hc1, hn1, hR'⟩ := hp hX hM kc kn hR
  obtain ⟨⟨fsX, hgX⟩, fsM, hgM⟩ := hROk hX hM kc kn hR
  obtain ⟨hx, hb, hml, hown, hts, hNW, hK, hXs, hbl, hL⟩ := id C
  refine lv_aload_n hx hb (dL okL_3 11 rfl) rfl (lv_at hl 1 rfl) ?_
  refine law_arg (j := 1) C hi hl hW.S (by decide) (by decide) (dL okL_3 12 rfl) (dL okL_3 13 rfl) (dL okL_3 14 rfl) (dL okL_3 15 rfl) (dL okL_3 16 rfl) ?_
  refine law_arg (j := 2) C hi hl hW.S (by decide) (by decide) (dL okL_3 17 rfl) (dL okL_3 18 rfl) (dL okL_3 19 rfl) (dL okL_3 20 rfl) (dL okL_3 21 rfl) ?_
  refine law_arg (j := 3) C hi hl hW.S (by decide) (by decide) (dL okL_3 22 rfl) (dL okL_3 23 rfl) (dL okL_3 24 rfl) (dL okL_4 0 rfl) (dL okL_4 1 rfl) ?_
  refine law_callV (as := [.int (xs (i + 1)), .int (xs (i + 2)), .int (xs (i + 3))]) (r := []) (y2 := PM 112) (d := 60) hx hb hml hown hts hNW hK (fun _ h => h) hl.1 hW hT1 e1 (Ev.ok l D eX) (by simp) hgX rfl rfl (law_cw_of (n := 3) [514, 515, 516, 517, 98] (by decide +kernel)) (by decide) (by decide) (by decide) ⟨by show cells + c1 ≤ 600000; omega, by show slots + n1 ≤ 7302250; omega⟩ (dL okL_4 2 rfl) ?_
  intro ρ3 v3 H3 locs3 hx3 hor3 hW3
  obtain ⟨_, rfl, rfl⟩ := hor3
  refine lv_aload_n hx hb (dL okL_4 3 rfl) rfl (lv_at hl 2 rfl) ?_
  refine law_arg (j := 1) C hi hl hW3.S (by decide) (by decide) (dL okL_4 4 rfl) (dL okL_4 5 rfl) (dL okL_4 6 rfl) (dL okL_4 7 rfl) (dL okL_4 8 rfl) ?_
  refine law_arg (j := 2) C hi hl hW3.S (by decide) (by decide) (dL okL_4 9 rfl) (dL okL_4 10 rfl) (dL okL_4 11 rfl) (dL okL_4 12 rfl) (dL okL_4 13 rfl) ?_
  refine law_arg (j := 3) C hi hl hW3.S (by decide) (by decide) (dL okL_4 14 rfl) (dL okL_4 15 rfl) (dL okL_4 16 rfl) (dL okL_4 17 rfl) (dL okL_4 18 rfl) ?_
  refine law_callV (as := [.int (xs (i + 1)), .int (xs (i + 2)), .int (xs (i + 3))]) (r := [.int v]) (y2 := PM 177) (d := 60) hx hb hml hown hts hNW hK (fun _ h => h) hl.1 hW3.swap hT2 e2 (Ev.ok l D eM) (by simp) hgM rfl rfl (law_cw_of (n := 3) [1303, 1304, 1305, 1306, 108] (by decide +kernel)) (by simp [Value.category]) (by decide) (by decide) ⟨by show cells + c1 + 0 ≤ 600000; omega, by show slots + n1 + 0 ≤ 7302250; omega⟩ (dL okL_4 19 rfl) ?_
  intro ρ4 v4 H4 locs4 hx4 hor4 hW4
  obtain ⟨_, rfl, rfl⟩ := hor4
  refine lv_icmp_eq (tgt := 1307) hx hb (dL okL_4 20 rfl) (by decide) (fun _ => ?_) (fun hne => absurd rfl hne)
  exact kk H4 locs4 _ _ ⟨ρ3, ρ4, q1, q2, hX', hM', kc - c1, kn - n1, hR', hx3 _ _ e1, hx4 _ _ e2, hW4.swap, hT1.mono hx3, hT2.mono hx4, hl, by show cells + c1 + 0 + (kc - c1) ≤ 600000; omega, by show slots + n1 + 0 + (kn - n1) ≤ 7302250; omega⟩
set_option maxHeartbeats 4000000 in
theorem law_case_3 (C : lw_C p s m meth c D b L xs) (hROk : lw_ROk Rel) (hi : i + 6 ≤ L) (hS : lw_S D s b Rel i ls H locs cells slots) (hp : pairI Rel 113 178 [.int (xs (i + 1)), .int (xs (i + 2))]) (kk : ∀ (H' : Heap) (locs' : List Loc) (cells' slots' : Nat), lw_S D s b Rel i ls H' locs' cells' slots' → W p l e room_1 s m #[Value.ref b] below meth c H' locs' cells' slots' Q (F0 m 1307 ls [])) : W p l e room_1 s m #[Value.ref b] below meth c H locs cells slots Q (F0 m 319 ls []) := by
  obtain ⟨ρ1, ρ2, q1, q2, hX, hM, kc, kn, hR, e1, e2, hW, hT1, hT2, hl, hkc, hkn⟩ := hS
  obtain ⟨v, hX', hM', c1, n1, eX, eM, hc1, hn1, hR'⟩ := hp hX hM kc kn hR
  obtain ⟨⟨fsX, hgX⟩, fsM, hgM⟩ := hROk hX hM kc kn hR
  obtain ⟨hx, hb, hml, hown, hts, hNW, hK, hXs, hbl, hL⟩ := id C
  refine lv_aload_n hx hb (dL okL_4 23 rfl) rfl (lv_at hl 1 rfl) ?_
  refine law_arg (j := 1) C hi hl hW.S (by decide) (by decide) (dL okL_4 24 rfl) (dL okL_5 0 rfl) (dL okL_5 1 rfl) (dL okL_5 2 rfl) (dL okL_5 3 rfl) ?_
  refine law_arg (j := 2) C hi hl hW.S (by decide) (by decide) (dL okL_5 4 rfl) (dL okL_5 5 rfl) (dL okL_5 6 rfl) (dL okL_5 7 rfl) (dL okL_5 8 rfl) ?_
  refine law_callV (as := [.int (xs (i + 1)), .int (xs (i + 2))]) (r := []) (y2 := PM 113) (d := 60) hx hb hml hown hts hNW hK (fun _ h => h) hl.1 hW hT1 e1 (Ev.ok l D eX) (by simp) hgX rfl rfl (law_cw_of (n := 2) [545, 546, 547, 548, 98] (by decide +kernel)) (by decide) (by decide) (by decide) ⟨by show cells + c1 ≤ 600000; omega, by show slots + n1 ≤ 7302250; omega⟩ (dL okL_5 9 rfl) ?_
  intro ρ3 v3 H3 locs3 hx3 hor3 hW3
  obtain ⟨_, rfl, rfl⟩ := hor3
  refine lv_aload_n hx hb (dL okL_5 10 rfl) rfl (lv_at hl 2 rfl) ?_
  refine law_arg (j := 1) C hi hl hW3.S (by decide) (by decide) (dL okL_5 11 rfl) (dL okL_5 12 rfl) (dL okL_5 13 rfl) (dL okL_5 14 rfl) (dL okL_5 15 rfl) ?_
  refine law_arg (j := 2) C hi hl hW3.S (by decide) (by decide) (dL okL_5 16 rfl) (dL okL_5 17 rfl) (dL okL_5 18 rfl) (dL okL_5 19 rfl) (dL okL_5 20 rfl) ?_
  refine law_callV (as := [.int (xs (i + 1)), .int (xs (i + 2))]) (r := [.int v]) (y2 := PM 178) (d := 60) hx hb hml hown hts hNW hK (fun _ h => h) hl.1 hW3.swap hT2 e2 (Ev.ok l D eM) (by simp) hgM rfl rfl (law_cw_of (n := 2) [1326, 1327, 1328, 1329, 108] (by decide +kernel)) (by simp [Value.category]) (by decide) (by decide) ⟨by show cells + c1 + 0 ≤ 600000; omega, by show slots + n1 + 0 ≤ 7302250; omega⟩ (dL okL_5 21 rfl) ?_
  intro ρ4 v4 H4 locs4 hx4 hor4 hW4
  obtain ⟨_, rfl, rfl⟩ := hor4
  refine lv_icmp_eq (tgt := 1307) hx hb (dL okL_5 22 rfl) (by decide) (fun _ => ?_) (fun hne => absurd rfl hne)
  exact kk H4 locs4 _ _ ⟨ρ3, ρ4, q1, q2, hX', hM', kc - c1, kn - n1, hR', hx3 _ _ e1, hx4 _ _ e2, hW4.swap, hT1.mono hx3, hT2.mono hx4, hl, by show cells + c1 + 0 + (kc - c1) ≤ 600000; omega, by show slots + n1 + 0 + (kn - n1) ≤ 7302250; omega⟩
set_option maxHeartbeats 4000000 in
theorem law_case_4 (C : lw_C p s m meth c D b L xs) (hROk : lw_ROk Rel) (hi : i + 6 ≤ L) (hS : lw_S D s b Rel i ls H locs cells slots) (hp : pairI Rel 114 179 [.int (xs (i + 1))]) (kk : ∀ (H' : Heap) (locs' : List Loc) (cells' slots' : Nat), lw_S D s b Rel i ls H' locs' cells' slots' → W p l e room_1 s m #[Value.ref b] below meth c H' locs' cells' slots' Q (F0 m 1307 ls [])) : W p l e room_1 s m #[Value.ref b] below meth c H locs cells slots Q (F0 m 352 ls []) := by
  obtain ⟨ρ1, ρ2, q1, q2, hX, hM, kc, kn, hR, e1, e2, hW, hT1, hT2, hl, hkc, hkn⟩ := hS
  obtain ⟨v, hX', hM', c1, n1, eX, eM, hc1, hn1, hR'⟩ := hp hX hM kc kn hR
  obtain ⟨⟨fsX, hgX⟩, fsM, hgM⟩ := hROk hX hM kc kn hR
  obtain ⟨hx, hb, hml, hown, hts, hNW, hK, hXs, hbl, hL⟩ := id C
  refine lv_aload_n hx hb (dL okL_6 0 rfl) rfl (lv_at hl 1 rfl) ?_
  refine law_arg (j := 1) C hi hl hW.S (by decide) (by decide) (dL okL_6 1 rfl) (dL okL_6 2 rfl) (dL okL_6 3 rfl) (dL okL_6 4 rfl) (dL okL_6 5 rfl) ?_
  refine law_callV (as := [.int (xs (i + 1))]) (r := []) (y2 := PM 114) (d := 60) hx hb hml hown hts hNW hK (fun _ h => h) hl.1 hW hT1 e1 (Ev.ok l D eX) (by simp) hgX rfl rfl (law_cw_of (n := 1) [550, 551, 552, 553, 98] (by decide +kernel)) (by decide) (by decide) (by decide) ⟨by show cells + c1 ≤ 600000; omega, by show slots + n1 ≤ 7302250; omega⟩ (dL okL_6 6 rfl) ?_
  intro ρ3 v3 H3 locs3 hx3 hor3 hW3
  obtain ⟨_, rfl, rfl⟩ := hor3
  refine lv_aload_n hx hb (dL okL_6 7 rfl) rfl (lv_at hl 2 rfl) ?_
  refine law_arg (j := 1) C hi hl hW3.S (by decide) (by decide) (dL okL_6 8 rfl) (dL okL_6 9 rfl) (dL okL_6 10 rfl) (dL okL_6 11 rfl) (dL okL_6 12 rfl) ?_
  refine law_callV (as := [.int (xs (i + 1))]) (r := [.int v]) (y2 := PM 179) (d := 60) hx hb hml hown hts hNW hK (fun _ h => h) hl.1 hW3.swap hT2 e2 (Ev.ok l D eM) (by simp) hgM rfl rfl (law_cw_of (n := 1) [1330, 1331, 1332, 1333, 108] (by decide +kernel)) (by simp [Value.category]) (by decide) (by decide) ⟨by show cells + c1 + 0 ≤ 600000; omega, by show slots + n1 + 0 ≤ 7302250; omega⟩ (dL okL_6 13 rfl) ?_
  intro ρ4 v4 H4 locs4 hx4 hor4 hW4
  obtain ⟨_, rfl, rfl⟩ := hor4
  refine lv_icmp_eq (tgt := 1307) hx hb (dL okL_6 14 rfl) (by decide) (fun _ => ?_) (fun hne => absurd rfl hne)
  exact kk H4 locs4 _ _ ⟨ρ3, ρ4, q1, q2, hX', hM', kc - c1, kn - n1, hR', hx3 _ _ e1, hx4 _ _ e2, hW4.swap, hT1.mono hx3, hT2.mono hx4, hl, by show cells + c1 + 0 + (kc - c1) ≤ 600000; omega, by show slots + n1 + 0 + (kn - n1) ≤ 7302250; omega⟩
set_option maxHeartbeats 4000000 in
theorem law_case_5 (C : lw_C p s m meth c D b L xs) (hROk : lw_ROk Rel) (hi : i + 6 ≤ L) (hS : lw_S D s b Rel i ls H locs cells slots) (hp : pairI Rel 115 197 []) (kk : ∀ (H' : Heap) (locs' : List Loc) (cells' slots' : Nat), lw_S D s b Rel i ls H' locs' cells' slots' → W p l e room_1 s m #[Value.ref b] below meth c H' locs' cells' slots' Q (F0 m 1307 ls [])) : W p l e room_1 s m #[Value.ref b] below meth c H locs cells slots Q (F0 m 375 ls []) := by
  obtain ⟨ρ1, ρ2, q1, q2, hX, hM, kc, kn, hR, e1, e2, hW, hT1, hT2, hl, hkc, hkn⟩ := hS
  obtain ⟨v, hX', hM', c1, n1, eX, eM, hc1, hn1, hR'⟩ := hp hX hM kc kn hR
  obtain ⟨⟨fsX, hgX⟩, fsM, hgM⟩ := hROk hX hM kc kn hR
  obtain ⟨hx, hb, hml, hown, hts, hNW, hK, hXs, hbl, hL⟩ := id C
  refine lv_aload_n hx hb (dL okL_6 17 rfl) rfl (lv_at hl 1 rfl) ?_
  refine law_callV (as := []) (r := []) (y2 := PM 115) (d := 60) hx hb hml hown hts hNW hK (fun _ h => h) hl.1 hW hT1 e1 (Ev.ok l D eX) (by simp) hgX rfl rfl (law_cw_of (n := 0) [562, 563, 564, 565, 98] (by decide +kernel)) (by decide) (by decide) (by decide) ⟨by show cells + c1 ≤ 600000; omega, by show slots + n1 ≤ 7302250; omega⟩ (dL okL_6 18 rfl) ?_
  intro ρ3 v3 H3 locs3 hx3 hor3 hW3
  obtain ⟨_, rfl, rfl⟩ := hor3
  refine lv_aload_n hx hb (dL okL_6 19 rfl) rfl (lv_at hl 2 rfl) ?_
  refine law_callV (as := []) (r := [.int v]) (y2 := PM 197) (d := 60) hx hb hml hown hts hNW hK (fun _ h => h) hl.1 hW3.swap hT2 e2 (Ev.ok l D eM) (by simp) hgM rfl rfl (law_cw_of (n := 0) [1334, 1335, 1336, 1337, 108] (by decide +kernel)) (by simp [Value.category]) (by decide) (by decide) ⟨by show cells + c1 + 0 ≤ 600000; omega, by show slots + n1 + 0 ≤ 7302250; omega⟩ (dL okL_6 20 rfl) ?_
  intro ρ4 v4 H4 locs4 hx4 hor4 hW4
  obtain ⟨_, rfl, rfl⟩ := hor4
  refine lv_icmp_eq (tgt := 1307) hx hb (dL okL_6 21 rfl) (by decide) (fun _ => ?_) (fun hne => absurd rfl hne)
  exact kk H4 locs4 _ _ ⟨ρ3, ρ4, q1, q2, hX', hM', kc - c1, kn - n1, hR', hx3 _ _ e1, hx4 _ _ e2, hW4.swap, hT1.mono hx3, hT2.mono hx4, hl, by show cells + c1 + 0 + (kc - c1) ≤ 600000; omega, by show slots + n1 + 0 + (kn - n1) ≤ 7302250; omega⟩
set_option maxHeartbeats 4000000 in
theorem law_case_6 (C : lw_C p s m meth c D b L xs) (hROk : lw_ROk Rel) (hi : i + 6 ≤ L) (hS : lw_S D s b Rel i ls H locs cells slots) (hp : pairI Rel 117 211 [.int (xs (i + 1))]) (kk : ∀ (H' : Heap) (locs' : List Loc) (cells' slots' : Nat), lw_S D s b Rel i ls H' locs' cells' slots' → W p l e room_1 s m #[Value.ref b] below meth c H' locs' cells' slots' Q (F0 m 1307 ls [])) : W p l e room_1 s m #[Value.ref b] below meth c H locs cells slots Q (F0 m 388 ls []) := by
  obtain ⟨ρ1, ρ2, q1, q2, hX, hM, kc, kn, hR, e1, e2, hW, hT1, hT2, hl, hkc, hkn⟩ := hS
  obtain ⟨v, hX', hM', c1, n1, eX, eM, hc1, hn1, hR'⟩ := hp hX hM kc kn hR
  obtain ⟨⟨fsX, hgX⟩, fsM, hgM⟩ := hROk hX hM kc kn hR
  obtain ⟨hx, hb, hml, hown, hts, hNW, hK, hXs, hbl, hL⟩ := id C
  refine lv_aload_n hx hb (dL okL_6 24 rfl) rfl (lv_at hl 1 rfl) ?_
  refine law_arg (j := 1) C hi hl hW.S (by decide) (by decide) (dL okL_7 0 rfl) (dL okL_7 1 rfl) (dL okL_7 2 rfl) (dL okL_7 3 rfl) (dL okL_7 4 rfl) ?_
  refine law_callV (as := [.int (xs (i + 1))]) (r := []) (y2 := PM 117) (d := 60) hx hb hml hown hts hNW hK (fun _ h => h) hl.1 hW hT1 e1 (Ev.ok l D eX) (by simp) hgX rfl rfl (law_cw_of (n := 1) [620, 621, 622, 623, 98] (by decide +kernel)) (by decide) (by decide) (by decide) ⟨by show cells + c1 ≤ 600000; omega, by show slots + n1 ≤ 7302250; omega⟩ (dL okL_7 5 rfl) ?_
  intro ρ3 v3 H3 locs3 hx3 hor3 hW3
  obtain ⟨_, rfl, rfl⟩ := hor3
  refine lv_aload_n hx hb (dL okL_7 6 rfl) rfl (lv_at hl 2 rfl) ?_
  refine law_arg (j := 1) C hi hl hW3.S (by decide) (by decide) (dL okL_7 7 rfl) (dL okL_7 8 rfl) (dL okL_7 9 rfl) (dL okL_7 10 rfl) (dL okL_7 11 rfl) ?_
  refine law_callV (as := [.int (xs (i + 1))]) (r := [.int v]) (y2 := PM 211) (d := 60) hx hb hml hown hts hNW hK (fun _ h => h) hl.1 hW3.swap hT2 e2 (Ev.ok l D eM) (by simp) hgM rfl rfl (law_cw_of (n := 1) [1393, 1394, 1395, 1396, 108] (by decide +kernel)) (by simp [Value.category]) (by decide) (by decide) ⟨by show cells + c1 + 0 ≤ 600000; omega, by show slots + n1 + 0 ≤ 7302250; omega⟩ (dL okL_7 12 rfl) ?_
  intro ρ4 v4 H4 locs4 hx4 hor4 hW4
  obtain ⟨_, rfl, rfl⟩ := hor4
  refine lv_icmp_eq (tgt := 1307) hx hb (dL okL_7 13 rfl) (by decide) (fun _ => ?_) (fun hne => absurd rfl hne)
  exact kk H4 locs4 _ _ ⟨ρ3, ρ4, q1, q2, hX', hM', kc - c1, kn - n1, hR', hx3 _ _ e1, hx4 _ _ e2, hW4.swap, hT1.mono hx3, hT2.mono hx4, hl, by show cells + c1 + 0 + (kc - c1) ≤ 600000; omega, by show slots + n1 + 0 + (kn - n1) ≤ 7302250; omega⟩
set_option maxHeartbeats 4000000 in
theorem law_case_7 (C : lw_C p s m meth c D b L xs) (hROk : lw_ROk Rel) (hi : i + 6 ≤ L) (hS : lw_S D s b Rel i ls H locs cells slots) (hp : pairI Rel 118 212 [.int (xs (i + 1)), .int (xs (i + 2))]) (kk : ∀ (H' : Heap) (locs' : List Loc) (cells' slots' : Nat), lw_S D s b Rel i ls H' locs' cells' slots' → W p l e room_1 s m #[Value.ref b] below meth c H' locs' cells' slots' Q (F0 m 1307 ls [])) : W p l e room_1 s m #[Value.ref b] below meth c H locs cells slots Q (F0 m 411 ls []) := by
  obtain ⟨ρ1, ρ2, q1, q2, hX, hM, kc, kn, hR, e1, e2, hW, hT1, hT2, hl, hkc, hkn⟩ := hS
  obtain ⟨v, hX', hM', c1, n1, eX, eM, hc1, hn1, hR'⟩ := hp hX hM kc kn hR
  obtain ⟨⟨fsX, hgX⟩, fsM, hgM⟩ := hROk hX hM kc kn hR
  obtain ⟨hx, hb, hml, hown, hts, hNW, hK, hXs, hbl, hL⟩ := id C
  refine lv_aload_n hx hb (dL okL_7 16 rfl) rfl (lv_at hl 1 rfl) ?_
  refine law_arg (j := 1) C hi hl hW.S (by decide) (by decide) (dL okL_7 17 rfl) (dL okL_7 18 rfl) (dL okL_7 19 rfl) (dL okL_7 20 rfl) (dL okL_7 21 rfl) ?_
  refine law_arg (j := 2) C hi hl hW.S (by decide) (by decide) (dL okL_7 22 rfl) (dL okL_7 23 rfl) (dL okL_7 24 rfl) (dL okL_8 0 rfl) (dL okL_8 1 rfl) ?_
  refine law_callV (as := [.int (xs (i + 1)), .int (xs (i + 2))]) (r := []) (y2 := PM 118) (d := 60) hx hb hml hown hts hNW hK (fun _ h => h) hl.1 hW hT1 e1 (Ev.ok l D eX) (by simp) hgX rfl rfl (law_cw_of (n := 2) [725, 726, 727, 728, 98] (by decide +kernel)) (by decide) (by decide) (by decide) ⟨by show cells + c1 ≤ 600000; omega, by show slots + n1 ≤ 7302250; omega⟩ (dL okL_8 2 rfl) ?_
  intro ρ3 v3 H3 locs3 hx3 hor3 hW3
  obtain ⟨_, rfl, rfl⟩ := hor3
  refine lv_aload_n hx hb (dL okL_8 3 rfl) rfl (lv_at hl 2 rfl) ?_
  refine law_arg (j := 1) C hi hl hW3.S (by decide) (by decide) (dL okL_8 4 rfl) (dL okL_8 5 rfl) (dL okL_8 6 rfl) (dL okL_8 7 rfl) (dL okL_8 8 rfl) ?_
  refine law_arg (j := 2) C hi hl hW3.S (by decide) (by decide) (dL okL_8 9 rfl) (dL okL_8 10 rfl) (dL okL_8 11 rfl) (dL okL_8 12 rfl) (dL okL_8 13 rfl) ?_
  refine law_callV (as := [.int (xs (i + 1)), .int (xs (i + 2))]) (r := [.int v]) (y2 := PM 212) (d := 60) hx hb hml hown hts hNW hK (fun _ h => h) hl.1 hW3.swap hT2 e2 (Ev.ok l D eM) (by simp) hgM rfl rfl (law_cw_of (n := 2) [1484, 1485, 1486, 1487, 108] (by decide +kernel)) (by simp [Value.category]) (by decide) (by decide) ⟨by show cells + c1 + 0 ≤ 600000; omega, by show slots + n1 + 0 ≤ 7302250; omega⟩ (dL okL_8 14 rfl) ?_
  intro ρ4 v4 H4 locs4 hx4 hor4 hW4
  obtain ⟨_, rfl, rfl⟩ := hor4
  refine lv_icmp_eq (tgt := 1307) hx hb (dL okL_8 15 rfl) (by decide) (fun _ => ?_) (fun hne => absurd rfl hne)
  exact kk H4 locs4 _ _ ⟨ρ3, ρ4, q1, q2, hX', hM', kc - c1, kn - n1, hR', hx3 _ _ e1, hx4 _ _ e2, hW4.swap, hT1.mono hx3, hT2.mono hx4, hl, by show cells + c1 + 0 + (kc - c1) ≤ 600000; omega, by show slots + n1 + 0 + (kn - n1) ≤ 7302250; omega⟩
set_option maxHeartbeats 4000000 in
theorem law_case_8 (C : lw_C p s m meth c D b L xs) (hROk : lw_ROk Rel) (hi : i + 6 ≤ L) (hS : lw_S D s b Rel i ls H locs cells slots) (hp : pairI Rel 119 213 [.int (xs (i + 1))]) (kk : ∀ (H' : Heap) (locs' : List Loc) (cells' slots' : Nat), lw_S D s b Rel i ls H' locs' cells' slots' → W p l e room_1 s m #[Value.ref b] below meth c H' locs' cells' slots' Q (F0 m 1307 ls [])) : W p l e room_1 s m #[Value.ref b] below meth c H locs cells slots Q (F0 m 444 ls []) := by
  obtain ⟨ρ1, ρ2, q1, q2, hX, hM, kc, kn, hR, e1, e2, hW, hT1, hT2, hl, hkc, hkn⟩ := hS
  obtain ⟨v, hX', hM', c1, n1, eX, eM, hc1, hn1, hR'⟩ := hp hX hM kc kn hR
  obtain ⟨⟨fsX, hgX⟩, fsM, hgM⟩ := hROk hX hM kc kn hR
  obtain ⟨hx, hb, hml, hown, hts, hNW, hK, hXs, hbl, hL⟩ := id C
  refine lv_aload_n hx hb (dL okL_8 18 rfl) rfl (lv_at hl 1 rfl) ?_
  refine law_arg (j := 1) C hi hl hW.S (by decide) (by decide) (dL okL_8 19 rfl) (dL okL_8 20 rfl) (dL okL_8 21 rfl) (dL okL_8 22 rfl) (dL okL_8 23 rfl) ?_
  refine law_callV (as := [.int (xs (i + 1))]) (r := []) (y2 := PM 119) (d := 60) hx hb hml hown hts hNW hK (fun _ h => h) hl.1 hW hT1 e1 (Ev.ok l D eX) (by simp) hgX rfl rfl (law_cw_of (n := 1) [733, 734, 735, 736, 98] (by decide +kernel)) (by decide) (by decide) (by decide) ⟨by show cells + c1 ≤ 600000; omega, by show slots + n1 ≤ 7302250; omega⟩ (dL okL_8 24 rfl) ?_
  intro ρ3 v3 H3 locs3 hx3 hor3 hW3
  obtain ⟨_, rfl, rfl⟩ := hor3
  refine lv_aload_n hx hb (dL okL_9 0 rfl) rfl (lv_at hl 2 rfl) ?_
  refine law_arg (j := 1) C hi hl hW3.S (by decide) (by decide) (dL okL_9 1 rfl) (dL okL_9 2 rfl) (dL okL_9 3 rfl) (dL okL_9 4 rfl) (dL okL_9 5 rfl) ?_
  refine law_callV (as := [.int (xs (i + 1))]) (r := [.int v]) (y2 := PM 213) (d := 60) hx hb hml hown hts hNW hK (fun _ h => h) hl.1 hW3.swap hT2 e2 (Ev.ok l D eM) (by simp) hgM rfl rfl (law_cw_of (n := 1) [1488, 1489, 1490, 1491, 108] (by decide +kernel)) (by simp [Value.category]) (by decide) (by decide) ⟨by show cells + c1 + 0 ≤ 600000; omega, by show slots + n1 + 0 ≤ 7302250; omega⟩ (dL okL_9 6 rfl) ?_
  intro ρ4 v4 H4 locs4 hx4 hor4 hW4
  obtain ⟨_, rfl, rfl⟩ := hor4
  refine lv_icmp_eq (tgt := 1307) hx hb (dL okL_9 7 rfl) (by decide) (fun _ => ?_) (fun hne => absurd rfl hne)
  exact kk H4 locs4 _ _ ⟨ρ3, ρ4, q1, q2, hX', hM', kc - c1, kn - n1, hR', hx3 _ _ e1, hx4 _ _ e2, hW4.swap, hT1.mono hx3, hT2.mono hx4, hl, by show cells + c1 + 0 + (kc - c1) ≤ 600000; omega, by show slots + n1 + 0 + (kn - n1) ≤ 7302250; omega⟩
set_option maxHeartbeats 4000000 in
theorem law_case_9 (C : lw_C p s m meth c D b L xs) (hROk : lw_ROk Rel) (hi : i + 6 ≤ L) (hS : lw_S D s b Rel i ls H locs cells slots) (hp : pairL Rel 120 218 [.int (xs (i + 1))]) (kk : ∀ (H' : Heap) (locs' : List Loc) (cells' slots' : Nat), lw_S D s b Rel i ls H' locs' cells' slots' → W p l e room_1 s m #[Value.ref b] below meth c H' locs' cells' slots' Q (F0 m 1307 ls [])) : W p l e room_1 s m #[Value.ref b] below meth c H locs cells slots Q (F0 m 467 ls []) := by
  obtain ⟨ρ1, ρ2, q1, q2, hX, hM, kc, kn, hR, e1, e2, hW, hT1, hT2, hl, hkc, hkn⟩ := hS
  obtain ⟨v, hX', hM', c1, n1, eX, eM, hc1, hn1, hR'⟩ := hp hX hM kc kn hR
  obtain ⟨⟨fsX, hgX⟩, fsM, hgM⟩ := hROk hX hM kc kn hR
  obtain ⟨hx, hb, hml, hown, hts, hNW, hK, hXs, hbl, hL⟩ := id C
  refine lv_aload_n hx hb (dL okL_9 10 rfl) rfl (lv_at hl 1 rfl) ?_
  refine law_arg (j := 1) C hi hl hW.S (by decide) (by decide) (dL okL_9 11 rfl) (dL okL_9 12 rfl) (dL okL_9 13 rfl) (dL okL_9 14 rfl) (dL okL_9 15 rfl) ?_
  refine law_callV (as := [.int (xs (i + 1))]) (r := []) (y2 := PM 120) (d := 60) hx hb hml hown hts hNW hK (fun _ h => h) hl.1 hW hT1 e1 (Ev.ok l D eX) (by simp) hgX rfl rfl (law_cw_of (n := 1) [737, 738, 739, 740, 98] (by decide +kernel)) (by decide) (by decide) (by decide) ⟨by show cells + c1 ≤ 600000; omega, by show slots + n1 ≤ 7302250; omega⟩ (dL okL_9 16 rfl) ?_
  intro ρ3 v3 H3 locs3 hx3 hor3 hW3
  obtain ⟨_, rfl, rfl⟩ := hor3
  refine lv_aload_n hx hb (dL okL_9 17 rfl) rfl (lv_at hl 2 rfl) ?_
  refine law_arg (j := 1) C hi hl hW3.S (by decide) (by decide) (dL okL_9 18 rfl) (dL okL_9 19 rfl) (dL okL_9 20 rfl) (dL okL_9 21 rfl) (dL okL_9 22 rfl) ?_
  refine law_callV (as := [.int (xs (i + 1))]) (r := [.long v]) (y2 := PM 218) (d := 60) hx hb hml hown hts hNW hK (fun _ h => h) hl.1 hW3.swap hT2 e2 (Ev.ok l D eM) (by simp) hgM rfl rfl (law_cw_of (n := 1) [1492, 1493, 1494, 1495, 108] (by decide +kernel)) (by simp [Value.category]) (by decide) (by decide) ⟨by show cells + c1 + 0 ≤ 600000; omega, by show slots + n1 + 0 ≤ 7302250; omega⟩ (dL okL_9 23 rfl) ?_
  intro ρ4 v4 H4 locs4 hx4 hor4 hW4
  obtain ⟨_, rfl, rfl⟩ := hor4
  refine W.lcmp hx hb (dL okL_9 24 rfl) ?_
  refine lv_if_eq (tgt := 1307) hx hb (dL okL_10 0 rfl) (by decide) (fun _ => ?_) (fun hne => absurd (law_cmp v) hne)
  exact kk H4 locs4 _ _ ⟨ρ3, ρ4, q1, q2, hX', hM', kc - c1, kn - n1, hR', hx3 _ _ e1, hx4 _ _ e2, hW4.swap, hT1.mono hx3, hT2.mono hx4, hl, by show cells + c1 + 0 + (kc - c1) ≤ 600000; omega, by show slots + n1 + 0 + (kn - n1) ≤ 7302250; omega⟩
set_option maxHeartbeats 4000000 in
theorem law_case_10 (C : lw_C p s m meth c D b L xs) (hROk : lw_ROk Rel) (hi : i + 6 ≤ L) (hS : lw_S D s b Rel i ls H locs cells slots) (hp : pairI Rel 121 225 [.int (xs (i + 1)), .int (xs (i + 2))]) (kk : ∀ (H' : Heap) (locs' : List Loc) (cells' slots' : Nat), lw_S D s b Rel i ls H' locs' cells' slots' → W p l e room_1 s m #[Value.ref b] below meth c H' locs' cells' slots' Q (F0 m 1307 ls [])) : W p l e room_1 s m #[Value.ref b] below meth c H locs cells slots Q (F0 m 491 ls []) := by
  obtain ⟨ρ1, ρ2, q1, q2, hX, hM, kc, kn, hR, e1, e2, hW, hT1, hT2, hl, hkc, hkn⟩ := hS
  obtain ⟨v, hX', hM', c1, n1, eX, eM, hc1, hn1, hR'⟩ := hp hX hM kc kn hR
  obtain ⟨⟨fsX, hgX⟩, fsM, hgM⟩ := hROk hX hM kc kn hR
  obtain ⟨hx, hb, hml, hown, hts, hNW, hK, hXs, hbl, hL⟩ := id C
  refine lv_aload_n hx hb (dL okL_10 3 rfl) rfl (lv_at hl 1 rfl) ?_
  refine law_arg (j := 1) C hi hl hW.S (by decide) (by decide) (dL okL_10 4 rfl) (dL okL_10 5 rfl) (dL okL_10 6 rfl) (dL okL_10 7 rfl) (dL okL_10 8 rfl) ?_
  refine law_arg (j := 2) C hi hl hW.S (by decide) (by decide) (dL okL_10 9 rfl) (dL okL_10 10 rfl) (dL okL_10 11 rfl) (dL okL_10 12 rfl) (dL okL_10 13 rfl) ?_
  refine law_callV (as := [.int (xs (i + 1)), .int (xs (i + 2))]) (r := []) (y2 := PM 121) (d := 60) hx hb hml hown hts hNW hK (fun _ h => h) hl.1 hW hT1 e1 (Ev.ok l D eX) (by simp) hgX rfl rfl (law_cw_of (n := 2) [762, 763, 764, 765, 98] (by decide +kernel)) (by decide) (by decide) (by decide) ⟨by show cells + c1 ≤ 600000; omega, by show slots + n1 ≤ 7302250; omega⟩ (dL okL_10 14 rfl) ?_
  intro ρ3 v3 H3 locs3 hx3 hor3 hW3
  obtain ⟨_, rfl, rfl⟩ := hor3
  refine lv_aload_n hx hb (dL okL_10 15 rfl) rfl (lv_at hl 2 rfl) ?_
  refine law_arg (j := 1) C hi hl hW3.S (by decide) (by decide) (dL okL_10 16 rfl) (dL okL_10 17 rfl) (dL okL_10 18 rfl) (dL okL_10 19 rfl) (dL okL_10 20 rfl) ?_
  refine law_arg (j := 2) C hi hl hW3.S (by decide) (by decide) (dL okL_10 21 rfl) (dL okL_10 22 rfl) (dL okL_10 23 rfl) (dL okL_10 24 rfl) (dL okL_11 0 rfl) ?_
  refine law_callV (as := [.int (xs (i + 1)), .int (xs (i + 2))]) (r := [.int v]) (y2 := PM 225) (d := 60) hx hb hml hown hts hNW hK (fun _ h => h) hl.1 hW3.swap hT2 e2 (Ev.ok l D eM) (by simp) hgM rfl rfl (law_cw_of (n := 2) [1518, 1519, 1520, 1521, 108] (by decide +kernel)) (by simp [Value.category]) (by decide) (by decide) ⟨by show cells + c1 + 0 ≤ 600000; omega, by show slots + n1 + 0 ≤ 7302250; omega⟩ (dL okL_11 1 rfl) ?_
  intro ρ4 v4 H4 locs4 hx4 hor4 hW4
  obtain ⟨_, rfl, rfl⟩ := hor4
  refine lv_icmp_eq (tgt := 1307) hx hb (dL okL_11 2 rfl) (by decide) (fun _ => ?_) (fun hne => absurd rfl hne)
  exact kk H4 locs4 _ _ ⟨ρ3, ρ4, q1, q2, hX', hM', kc - c1, kn - n1, hR', hx3 _ _ e1, hx4 _ _ e2, hW4.swap, hT1.mono hx3, hT2.mono hx4, hl, by show cells + c1 + 0 + (kc - c1) ≤ 600000; omega, by show slots + n1 + 0 + (kn - n1) ≤ 7302250; omega⟩
set_option maxHeartbeats 4000000 in
theorem law_case_11 (C : lw_C p s m meth c D b L xs) (hROk : lw_ROk Rel) (hi : i + 6 ≤ L) (hS : lw_S D s b Rel i ls H locs cells slots) (hp : pairI Rel 122 226 [.int (xs (i + 1)), .int (xs (i + 2))]) (kk : ∀ (H' : Heap) (locs' : List Loc) (cells' slots' : Nat), lw_S D s b Rel i ls H' locs' cells' slots' → W p l e room_1 s m #[Value.ref b] below meth c H' locs' cells' slots' Q (F0 m 1307 ls [])) : W p l e room_1 s m #[Value.ref b] below meth c H locs cells slots Q (F0 m 524 ls []) := by
  obtain ⟨ρ1, ρ2, q1, q2, hX, hM, kc, kn, hR, e1, e2, hW, hT1, hT2, hl, hkc, hkn⟩ := hS
  obtain ⟨v, hX', hM', c1, n1, eX, eM, hc1, hn1, hR'⟩ := hp hX hM kc kn hR
  obtain ⟨⟨fsX, hgX⟩, fsM, hgM⟩ := hROk hX hM kc kn hR
  obtain ⟨hx, hb, hml, hown, hts, hNW, hK, hXs, hbl, hL⟩ := id C
  refine lv_aload_n hx hb (dL okL_11 5 rfl) rfl (lv_at hl 1 rfl) ?_
  refine law_arg (j := 1) C hi hl hW.S (by decide) (by decide) (dL okL_11 6 rfl) (dL okL_11 7 rfl) (dL okL_11 8 rfl) (dL okL_11 9 rfl) (dL okL_11 10 rfl) ?_
  refine law_arg (j := 2) C hi hl hW.S (by decide) (by decide) (dL okL_11 11 rfl) (dL okL_11 12 rfl) (dL okL_11 13 rfl) (dL okL_11 14 rfl) (dL okL_11 15 rfl) ?_
  refine law_callV (as := [.int (xs (i + 1)), .int (xs (i + 2))]) (r := []) (y2 := PM 122) (d := 60) hx hb hml hown hts hNW hK (fun _ h => h) hl.1 hW hT1 e1 (Ev.ok l D eX) (by simp) hgX rfl rfl (law_cw_of (n := 2) [786, 787, 788, 789, 98] (by decide +kernel)) (by decide) (by decide) (by decide) ⟨by show cells + c1 ≤ 600000; omega, by show slots + n1 ≤ 7302250; omega⟩ (dL okL_11 16 rfl) ?_
  intro ρ3 v3 H3 locs3 hx3 hor3 hW3
  obtain ⟨_, rfl, rfl⟩ := hor3
  refine lv_aload_n hx hb (dL okL_11 17 rfl) rfl (lv_at hl 2 rfl) ?_
  refine law_arg (j := 1) C hi hl hW3.S (by decide) (by decide) (dL okL_11 18 rfl) (dL okL_11 19 rfl) (dL okL_11 20 rfl) (dL okL_11 21 rfl) (dL okL_11 22 rfl) ?_
  refine law_arg (j := 2) C hi hl hW3.S (by decide) (by decide) (dL okL_11 23 rfl) (dL okL_11 24 rfl) (dL okL_12 0 rfl) (dL okL_12 1 rfl) (dL okL_12 2 rfl) ?_
  refine law_callV (as := [.int (xs (i + 1)), .int (xs (i + 2))]) (r := [.int v]) (y2 := PM 226) (d := 60) hx hb hml hown hts hNW hK (fun _ h => h) hl.1 hW3.swap hT2 e2 (Ev.ok l D eM) (by simp) hgM rfl rfl (law_cw_of (n := 2) [1550, 1551, 1552, 1553, 108] (by decide +kernel)) (by simp [Value.category]) (by decide) (by decide) ⟨by show cells + c1 + 0 ≤ 600000; omega, by show slots + n1 + 0 ≤ 7302250; omega⟩ (dL okL_12 3 rfl) ?_
  intro ρ4 v4 H4 locs4 hx4 hor4 hW4
  obtain ⟨_, rfl, rfl⟩ := hor4
  refine lv_icmp_eq (tgt := 1307) hx hb (dL okL_12 4 rfl) (by decide) (fun _ => ?_) (fun hne => absurd rfl hne)
  exact kk H4 locs4 _ _ ⟨ρ3, ρ4, q1, q2, hX', hM', kc - c1, kn - n1, hR', hx3 _ _ e1, hx4 _ _ e2, hW4.swap, hT1.mono hx3, hT2.mono hx4, hl, by show cells + c1 + 0 + (kc - c1) ≤ 600000; omega, by show slots + n1 + 0 + (kn - n1) ≤ 7302250; omega⟩
set_option maxHeartbeats 4000000 in
theorem law_case_12 (C : lw_C p s m meth c D b L xs) (hROk : lw_ROk Rel) (hi : i + 6 ≤ L) (hS : lw_S D s b Rel i ls H locs cells slots) (hp : pairI Rel 126 229 [.int (xs (i + 1))]) (kk : ∀ (H' : Heap) (locs' : List Loc) (cells' slots' : Nat), lw_S D s b Rel i ls H' locs' cells' slots' → W p l e room_1 s m #[Value.ref b] below meth c H' locs' cells' slots' Q (F0 m 1307 ls [])) : W p l e room_1 s m #[Value.ref b] below meth c H locs cells slots Q (F0 m 557 ls []) := by
  obtain ⟨ρ1, ρ2, q1, q2, hX, hM, kc, kn, hR, e1, e2, hW, hT1, hT2, hl, hkc, hkn⟩ := hS
  obtain ⟨v, hX', hM', c1, n1, eX, eM, hc1, hn1, hR'⟩ := hp hX hM kc kn hR
  obtain ⟨⟨fsX, hgX⟩, fsM, hgM⟩ := hROk hX hM kc kn hR
  obtain ⟨hx, hb, hml, hown, hts, hNW, hK, hXs, hbl, hL⟩ := id C
  refine lv_aload_n hx hb (dL okL_12 7 rfl) rfl (lv_at hl 1 rfl) ?_
  refine law_arg (j := 1) C hi hl hW.S (by decide) (by decide) (dL okL_12 8 rfl) (dL okL_12 9 rfl) (dL okL_12 10 rfl) (dL okL_12 11 rfl) (dL okL_12 12 rfl) ?_
  refine law_callV (as := [.int (xs (i + 1))]) (r := []) (y2 := PM 126) (d := 60) hx hb hml hown hts hNW hK (fun _ h => h) hl.1 hW hT1 e1 (Ev.ok l D eX) (by simp) hgX rfl rfl (law_cw_of (n := 1) [790, 791, 792, 793, 98] (by decide +kernel)) (by decide) (by decide) (by decide) ⟨by show cells + c1 ≤ 600000; omega, by show slots + n1 ≤ 7302250; omega⟩ (dL okL_12 13 rfl) ?_
  intro ρ3 v3 H3 locs3 hx3 hor3 hW3
  obtain ⟨_, rfl, rfl⟩ := hor3
  refine lv_aload_n hx hb (dL okL_12 14 rfl) rfl (lv_at hl 2 rfl) ?_
  refine law_arg (j := 1) C hi hl hW3.S (by decide) (by decide) (dL okL_12 15 rfl) (dL okL_12 16 rfl) (dL okL_12 17 rfl) (dL okL_12 18 rfl) (dL okL_12 19 rfl) ?_
  refine law_callV (as := [.int (xs (i + 1))]) (r := [.int v]) (y2 := PM 229) (d := 60) hx hb hml hown hts hNW hK (fun _ h => h) hl.1 hW3.swap hT2 e2 (Ev.ok l D eM) (by simp) hgM rfl rfl (law_cw_of (n := 1) [1554, 1555, 1556, 1557, 108] (by decide +kernel)) (by simp [Value.category]) (by decide) (by decide) ⟨by show cells + c1 + 0 ≤ 600000; omega, by show slots + n1 + 0 ≤ 7302250; omega⟩ (dL okL_12 20 rfl) ?_
  intro ρ4 v4 H4 locs4 hx4 hor4 hW4
  obtain ⟨_, rfl, rfl⟩ := hor4
  refine lv_icmp_eq (tgt := 1307) hx hb (dL okL_12 21 rfl) (by decide) (fun _ => ?_) (fun hne => absurd rfl hne)
  exact kk H4 locs4 _ _ ⟨ρ3, ρ4, q1, q2, hX', hM', kc - c1, kn - n1, hR', hx3 _ _ e1, hx4 _ _ e2, hW4.swap, hT1.mono hx3, hT2.mono hx4, hl, by show cells + c1 + 0 + (kc - c1) ≤ 600000; omega, by show slots + n1 + 0 + (kn - n1) ≤ 7302250; omega⟩
set_option maxHeartbeats 4000000 in
theorem law_case_13 (C : lw_C p s m meth c D b L xs) (hROk : lw_ROk Rel) (hi : i + 6 ≤ L) (hS : lw_S D s b Rel i ls H locs cells slots) (hp : pairI Rel 128 231 [.int (xs (i + 1)), .int (xs (i + 2))]) (kk : ∀ (H' : Heap) (locs' : List Loc) (cells' slots' : Nat), lw_S D s b Rel i ls H' locs' cells' slots' → W p l e room_1 s m #[Value.ref b] below meth c H' locs' cells' slots' Q (F0 m 1307 ls [])) : W p l e room_1 s m #[Value.ref b] below meth c H locs cells slots Q (F0 m 580 ls []) := by
  obtain ⟨ρ1, ρ2, q1, q2, hX, hM, kc, kn, hR, e1, e2, hW, hT1, hT2, hl, hkc, hkn⟩ := hS
  obtain ⟨v, hX', hM', c1, n1, eX, eM, hc1, hn1, hR'⟩ := hp hX hM kc kn hR
  obtain ⟨⟨fsX, hgX⟩, fsM, hgM⟩ := hROk hX hM kc kn hR
  obtain ⟨hx, hb, hml, hown, hts, hNW, hK, hXs, hbl, hL⟩ := id C
  refine lv_aload_n hx hb (dL okL_12 24 rfl) rfl (lv_at hl 1 rfl) ?_
  refine law_arg (j := 1) C hi hl hW.S (by decide) (by decide) (dL okL_13 0 rfl) (dL okL_13 1 rfl) (dL okL_13 2 rfl) (dL okL_13 3 rfl) (dL okL_13 4 rfl) ?_
  refine law_arg (j := 2) C hi hl hW.S (by decide) (by decide) (dL okL_13 5 rfl) (dL okL_13 6 rfl) (dL okL_13 7 rfl) (dL okL_13 8 rfl) (dL okL_13 9 rfl) ?_
  refine law_callV (as := [.int (xs (i + 1)), .int (xs (i + 2))]) (r := []) (y2 := PM 128) (d := 60) hx hb hml hown hts hNW hK (fun _ h => h) hl.1 hW hT1 e1 (Ev.ok l D eX) (by simp) hgX rfl rfl (law_cw_of (n := 2) [806, 807, 808, 809, 98] (by decide +kernel)) (by decide) (by decide) (by decide) ⟨by show cells + c1 ≤ 600000; omega, by show slots + n1 ≤ 7302250; omega⟩ (dL okL_13 10 rfl) ?_
  intro ρ3 v3 H3 locs3 hx3 hor3 hW3
  obtain ⟨_, rfl, rfl⟩ := hor3
  refine lv_aload_n hx hb (dL okL_13 11 rfl) rfl (lv_at hl 2 rfl) ?_
  refine law_arg (j := 1) C hi hl hW3.S (by decide) (by decide) (dL okL_13 12 rfl) (dL okL_13 13 rfl) (dL okL_13 14 rfl) (dL okL_13 15 rfl) (dL okL_13 16 rfl) ?_
  refine law_arg (j := 2) C hi hl hW3.S (by decide) (by decide) (dL okL_13 17 rfl) (dL okL_13 18 rfl) (dL okL_13 19 rfl) (dL okL_13 20 rfl) (dL okL_13 21 rfl) ?_
  refine law_callV (as := [.int (xs (i + 1)), .int (xs (i + 2))]) (r := [.int v]) (y2 := PM 231) (d := 60) hx hb hml hown hts hNW hK (fun _ h => h) hl.1 hW3.swap hT2 e2 (Ev.ok l D eM) (by simp) hgM rfl rfl (law_cw_of (n := 2) [1565, 1566, 1567, 1568, 108] (by decide +kernel)) (by simp [Value.category]) (by decide) (by decide) ⟨by show cells + c1 + 0 ≤ 600000; omega, by show slots + n1 + 0 ≤ 7302250; omega⟩ (dL okL_13 22 rfl) ?_
  intro ρ4 v4 H4 locs4 hx4 hor4 hW4
  obtain ⟨_, rfl, rfl⟩ := hor4
  refine lv_icmp_eq (tgt := 1307) hx hb (dL okL_13 23 rfl) (by decide) (fun _ => ?_) (fun hne => absurd rfl hne)
  exact kk H4 locs4 _ _ ⟨ρ3, ρ4, q1, q2, hX', hM', kc - c1, kn - n1, hR', hx3 _ _ e1, hx4 _ _ e2, hW4.swap, hT1.mono hx3, hT2.mono hx4, hl, by show cells + c1 + 0 + (kc - c1) ≤ 600000; omega, by show slots + n1 + 0 + (kn - n1) ≤ 7302250; omega⟩
set_option maxHeartbeats 4000000 in
theorem law_case_14 (C : lw_C p s m meth c D b L xs) (hROk : lw_ROk Rel) (hi : i + 6 ≤ L) (hS : lw_S D s b Rel i ls H locs cells slots) (hp : pairI Rel 129 232 [.int (xs (i + 1)), .int (xs (i + 2))]) (kk : ∀ (H' : Heap) (locs' : List Loc) (cells' slots' : Nat), lw_S D s b Rel i ls H' locs' cells' slots' → W p l e room_1 s m #[Value.ref b] below meth c H' locs' cells' slots' Q (F0 m 1307 ls [])) : W p l e room_1 s m #[Value.ref b] below meth c H locs cells slots Q (F0 m 613 ls []) := by
  obtain ⟨ρ1, ρ2, q1, q2, hX, hM, kc, kn, hR, e1, e2, hW, hT1, hT2, hl, hkc, hkn⟩ := hS
  obtain ⟨v, hX', hM', c1, n1, eX, eM, hc1, hn1, hR'⟩ := hp hX hM kc kn hR
  obtain ⟨⟨fsX, hgX⟩, fsM, hgM⟩ := hROk hX hM kc kn hR
  obtain ⟨hx, hb, hml, hown, hts, hNW, hK, hXs, hbl, hL⟩ := id C
  refine lv_aload_n hx hb (dL okL_14 1 rfl) rfl (lv_at hl 1 rfl) ?_
  refine law_arg (j := 1) C hi hl hW.S (by decide) (by decide) (dL okL_14 2 rfl) (dL okL_14 3 rfl) (dL okL_14 4 rfl) (dL okL_14 5 rfl) (dL okL_14 6 rfl) ?_
  refine law_arg (j := 2) C hi hl hW.S (by decide) (by decide) (dL okL_14 7 rfl) (dL okL_14 8 rfl) (dL okL_14 9 rfl) (dL okL_14 10 rfl) (dL okL_14 11 rfl) ?_
  refine law_callV (as := [.int (xs (i + 1)), .int (xs (i + 2))]) (r := []) (y2 := PM 129) (d := 60) hx hb hml hown hts hNW hK (fun _ h => h) hl.1 hW hT1 e1 (Ev.ok l D eX) (by simp) hgX rfl rfl (law_cw_of (n := 2) [821, 822, 823, 824, 98] (by decide +kernel)) (by decide) (by decide) (by decide) ⟨by show cells + c1 ≤ 600000; omega, by show slots + n1 ≤ 7302250; omega⟩ (dL okL_14 12 rfl) ?_
  intro ρ3 v3 H3 locs3 hx3 hor3 hW3
  obtain ⟨_, rfl, rfl⟩ := hor3
  refine lv_aload_n hx hb (dL okL_14 13 rfl) rfl (lv_at hl 2 rfl) ?_
  refine law_arg (j := 1) C hi hl hW3.S (by decide) (by decide) (dL okL_14 14 rfl) (dL okL_14 15 rfl) (dL okL_14 16 rfl) (dL okL_14 17 rfl) (dL okL_14 18 rfl) ?_
  refine law_arg (j := 2) C hi hl hW3.S (by decide) (by decide) (dL okL_14 19 rfl) (dL okL_14 20 rfl) (dL okL_14 21 rfl) (dL okL_14 22 rfl) (dL okL_14 23 rfl) ?_
  refine law_callV (as := [.int (xs (i + 1)), .int (xs (i + 2))]) (r := [.int v]) (y2 := PM 232) (d := 60) hx hb hml hown hts hNW hK (fun _ h => h) hl.1 hW3.swap hT2 e2 (Ev.ok l D eM) (by simp) hgM rfl rfl (law_cw_of (n := 2) [1573, 1574, 1575, 1576, 108] (by decide +kernel)) (by simp [Value.category]) (by decide) (by decide) ⟨by show cells + c1 + 0 ≤ 600000; omega, by show slots + n1 + 0 ≤ 7302250; omega⟩ (dL okL_14 24 rfl) ?_
  intro ρ4 v4 H4 locs4 hx4 hor4 hW4
  obtain ⟨_, rfl, rfl⟩ := hor4
  refine lv_icmp_eq (tgt := 1307) hx hb (dL okL_15 0 rfl) (by decide) (fun _ => ?_) (fun hne => absurd rfl hne)
  exact kk H4 locs4 _ _ ⟨ρ3, ρ4, q1, q2, hX', hM', kc - c1, kn - n1, hR', hx3 _ _ e1, hx4 _ _ e2, hW4.swap, hT1.mono hx3, hT2.mono hx4, hl, by show cells + c1 + 0 + (kc - c1) ≤ 600000; omega, by show slots + n1 + 0 + (kn - n1) ≤ 7302250; omega⟩
set_option maxHeartbeats 4000000 in
theorem law_case_15 (C : lw_C p s m meth c D b L xs) (hROk : lw_ROk Rel) (hi : i + 6 ≤ L) (hS : lw_S D s b Rel i ls H locs cells slots) (hp : pairL Rel 130 234 [.int (xs (i + 1)), .int (xs (i + 2)), .int (xs (i + 3))]) (kk : ∀ (H' : Heap) (locs' : List Loc) (cells' slots' : Nat), lw_S D s b Rel i ls H' locs' cells' slots' → W p l e room_1 s m #[Value.ref b] below meth c H' locs' cells' slots' Q (F0 m 1307 ls [])) : W p l e room_1 s m #[Value.ref b] below meth c H locs cells slots Q (F0 m 646 ls []) := by
  obtain ⟨ρ1, ρ2, q1, q2, hX, hM, kc, kn, hR, e1, e2, hW, hT1, hT2, hl, hkc, hkn⟩ := hS
  obtain ⟨v, hX', hM', c1, n1, eX, eM, hc1, hn1, hR'⟩ := hp hX hM kc kn hR
  obtain ⟨⟨fsX, hgX⟩, fsM, hgM⟩ := hROk hX hM kc kn hR
  obtain ⟨hx, hb, hml, hown, hts, hNW, hK, hXs, hbl, hL⟩ := id C
  refine lv_aload_n hx hb (dL okL_15 3 rfl) rfl (lv_at hl 1 rfl) ?_
  refine law_arg (j := 1) C hi hl hW.S (by decide) (by decide) (dL okL_15 4 rfl) (dL okL_15 5 rfl) (dL okL_15 6 rfl) (dL okL_15 7 rfl) (dL okL_15 8 rfl) ?_
  refine law_arg (j := 2) C hi hl hW.S (by decide) (by decide) (dL okL_15 9 rfl) (dL okL_15 10 rfl) (dL okL_15 11 rfl) (dL okL_15 12 rfl) (dL okL_15 13 rfl) ?_
  refine law_arg (j := 3) C hi hl hW.S (by decide) (by decide) (dL okL_15 14 rfl) (dL okL_15 15 rfl) (dL okL_15 16 rfl) (dL okL_15 17 rfl) (dL okL_15 18 rfl) ?_
  refine law_callV (as := [.int (xs (i + 1)), .int (xs (i + 2)), .int (xs (i + 3))]) (r := []) (y2 := PM 130) (d := 60) hx hb hml hown hts hNW hK (fun _ h => h) hl.1 hW hT1 e1 (Ev.ok l D eX) (by simp) hgX rfl rfl (law_cw_of (n := 3) [825, 826, 827, 828, 98] (by decide +kernel)) (by decide) (by decide) (by decide) ⟨by show cells + c1 ≤ 600000; omega, by show slots + n1 ≤ 7302250; omega⟩ (dL okL_15 19 rfl) ?_
  intro ρ3 v3 H3 locs3 hx3 hor3 hW3
  obtain ⟨_, rfl, rfl⟩ := hor3
  refine lv_aload_n hx hb (dL okL_15 20 rfl) rfl (lv_at hl 2 rfl) ?_
  refine law_arg (j := 1) C hi hl hW3.S (by decide) (by decide) (dL okL_15 21 rfl) (dL okL_15 22 rfl) (dL okL_15 23 rfl) (dL okL_15 24 rfl) (dL okL_16 0 rfl) ?_
  refine law_arg (j := 2) C hi hl hW3.S (by decide) (by decide) (dL okL_16 1 rfl) (dL okL_16 2 rfl) (dL okL_16 3 rfl) (dL okL_16 4 rfl) (dL okL_16 5 rfl) ?_
  refine law_arg (j := 3) C hi hl hW3.S (by decide) (by decide) (dL okL_16 6 rfl) (dL okL_16 7 rfl) (dL okL_16 8 rfl) (dL okL_16 9 rfl) (dL okL_16 10 rfl) ?_
  refine law_callV (as := [.int (xs (i + 1)), .int (xs (i + 2)), .int (xs (i + 3))]) (r := [.long v]) (y2 := PM 234) (d := 60) hx hb hml hown hts hNW hK (fun _ h => h) hl.1 hW3.swap hT2 e2 (Ev.ok l D eM) (by simp) hgM rfl rfl (law_cw_of (n := 3) [1577, 1578, 1579, 1580, 108] (by decide +kernel)) (by simp [Value.category]) (by decide) (by decide) ⟨by show cells + c1 + 0 ≤ 600000; omega, by show slots + n1 + 0 ≤ 7302250; omega⟩ (dL okL_16 11 rfl) ?_
  intro ρ4 v4 H4 locs4 hx4 hor4 hW4
  obtain ⟨_, rfl, rfl⟩ := hor4
  refine W.lcmp hx hb (dL okL_16 12 rfl) ?_
  refine lv_if_eq (tgt := 1307) hx hb (dL okL_16 13 rfl) (by decide) (fun _ => ?_) (fun hne => absurd (law_cmp v) hne)
  exact kk H4 locs4 _ _ ⟨ρ3, ρ4, q1, q2, hX', hM', kc - c1, kn - n1, hR', hx3 _ _ e1, hx4 _ _ e2, hW4.swap, hT1.mono hx3, hT2.mono hx4, hl, by show cells + c1 + 0 + (kc - c1) ≤ 600000; omega, by show slots + n1 + 0 + (kn - n1) ≤ 7302250; omega⟩
set_option maxHeartbeats 4000000 in
theorem law_case_16 (C : lw_C p s m meth c D b L xs) (hROk : lw_ROk Rel) (hi : i + 6 ≤ L) (hS : lw_S D s b Rel i ls H locs cells slots) (hp : pairI Rel 131 235 [.int (xs (i + 1))]) (kk : ∀ (H' : Heap) (locs' : List Loc) (cells' slots' : Nat), lw_S D s b Rel i ls H' locs' cells' slots' → W p l e room_1 s m #[Value.ref b] below meth c H' locs' cells' slots' Q (F0 m 1307 ls [])) : W p l e room_1 s m #[Value.ref b] below meth c H locs cells slots Q (F0 m 690 ls []) := by
  obtain ⟨ρ1, ρ2, q1, q2, hX, hM, kc, kn, hR, e1, e2, hW, hT1, hT2, hl, hkc, hkn⟩ := hS
  obtain ⟨v, hX', hM', c1, n1, eX, eM, hc1, hn1, hR'⟩ := hp hX hM kc kn hR
  obtain ⟨⟨fsX, hgX⟩, fsM, hgM⟩ := hROk hX hM kc kn hR
  obtain ⟨hx, hb, hml, hown, hts, hNW, hK, hXs, hbl, hL⟩ := id C
  refine lv_aload_n hx hb (dL okL_16 16 rfl) rfl (lv_at hl 1 rfl) ?_
  refine law_arg (j := 1) C hi hl hW.S (by decide) (by decide) (dL okL_16 17 rfl) (dL okL_16 18 rfl) (dL okL_16 19 rfl) (dL okL_16 20 rfl) (dL okL_16 21 rfl) ?_
  refine law_callV (as := [.int (xs (i + 1))]) (r := []) (y2 := PM 131) (d := 60) hx hb hml hown hts hNW hK (fun _ h => h) hl.1 hW hT1 e1 (Ev.ok l D eX) (by simp) hgX rfl rfl (law_cw_of (n := 1) [834, 835, 836, 837, 98] (by decide +kernel)) (by decide) (by decide) (by decide) ⟨by show cells + c1 ≤ 600000; omega, by show slots + n1 ≤ 7302250; omega⟩ (dL okL_16 22 rfl) ?_
  intro ρ3 v3 H3 locs3 hx3 hor3 hW3
  obtain ⟨_, rfl, rfl⟩ := hor3
  refine lv_aload_n hx hb (dL okL_16 23 rfl) rfl (lv_at hl 2 rfl) ?_
  refine law_arg (j := 1) C hi hl hW3.S (by decide) (by decide) (dL okL_16 24 rfl) (dL okL_17 0 rfl) (dL okL_17 1 rfl) (dL okL_17 2 rfl) (dL okL_17 3 rfl) ?_
  refine law_callV (as := [.int (xs (i + 1))]) (r := [.int v]) (y2 := PM 235) (d := 60) hx hb hml hown hts hNW hK (fun _ h => h) hl.1 hW3.swap hT2 e2 (Ev.ok l D eM) (by simp) hgM rfl rfl (law_cw_of (n := 1) [1585, 1586, 1587, 1588, 108] (by decide +kernel)) (by simp [Value.category]) (by decide) (by decide) ⟨by show cells + c1 + 0 ≤ 600000; omega, by show slots + n1 + 0 ≤ 7302250; omega⟩ (dL okL_17 4 rfl) ?_
  intro ρ4 v4 H4 locs4 hx4 hor4 hW4
  obtain ⟨_, rfl, rfl⟩ := hor4
  refine lv_icmp_eq (tgt := 1307) hx hb (dL okL_17 5 rfl) (by decide) (fun _ => ?_) (fun hne => absurd rfl hne)
  exact kk H4 locs4 _ _ ⟨ρ3, ρ4, q1, q2, hX', hM', kc - c1, kn - n1, hR', hx3 _ _ e1, hx4 _ _ e2, hW4.swap, hT1.mono hx3, hT2.mono hx4, hl, by show cells + c1 + 0 + (kc - c1) ≤ 600000; omega, by show slots + n1 + 0 + (kn - n1) ≤ 7302250; omega⟩
set_option maxHeartbeats 4000000 in
theorem law_case_17 (C : lw_C p s m meth c D b L xs) (hROk : lw_ROk Rel) (hi : i + 6 ≤ L) (hS : lw_S D s b Rel i ls H locs cells slots) (hp : pairI Rel 132 237 [.int (xs (i + 1))]) (kk : ∀ (H' : Heap) (locs' : List Loc) (cells' slots' : Nat), lw_S D s b Rel i ls H' locs' cells' slots' → W p l e room_1 s m #[Value.ref b] below meth c H' locs' cells' slots' Q (F0 m 1307 ls [])) : W p l e room_1 s m #[Value.ref b] below meth c H locs cells slots Q (F0 m 713 ls []) := by
  obtain ⟨ρ1, ρ2, q1, q2, hX, hM, kc, kn, hR, e1, e2, hW, hT1, hT2, hl, hkc, hkn⟩ := hS
  obtain ⟨v, hX', hM', c1, n1, eX, eM, hc1, hn1, hR'⟩ := hp hX hM kc kn hR
  obtain ⟨⟨fsX, hgX⟩, fsM, hgM⟩ := hROk hX hM kc kn hR
  obtain ⟨hx, hb, hml, hown, hts, hNW, hK, hXs, hbl, hL⟩ := id C
  refine lv_aload_n hx hb (dL okL_17 8 rfl) rfl (lv_at hl 1 rfl) ?_
  refine law_arg (j := 1) C hi hl hW.S (by decide) (by decide) (dL okL_17 9 rfl) (dL okL_17 10 rfl) (dL okL_17 11 rfl) (dL okL_17 12 rfl) (dL okL_17 13 rfl) ?_
  refine law_callV (as := [.int (xs (i + 1))]) (r := []) (y2 := PM 132) (d := 60) hx hb hml hown hts hNW hK (fun _ h => h) hl.1 hW hT1 e1 (Ev.ok l D eX) (by simp) hgX rfl rfl (law_cw_of (n := 1) [838, 839, 840, 841, 98] (by decide +kernel)) (by decide) (by decide) (by decide) ⟨by show cells + c1 ≤ 600000; omega, by show slots + n1 ≤ 7302250; omega⟩ (dL okL_17 14 rfl) ?_
  intro ρ3 v3 H3 locs3 hx3 hor3 hW3
  obtain ⟨_, rfl, rfl⟩ := hor3
  refine lv_aload_n hx hb (dL okL_17 15 rfl) rfl (lv_at hl 2 rfl) ?_
  refine law_arg (j := 1) C hi hl hW3.S (by decide) (by decide) (dL okL_17 16 rfl) (dL okL_17 17 rfl) (dL okL_17 18 rfl) (dL okL_17 19 rfl) (dL okL_17 20 rfl) ?_
  refine law_callV (as := [.int (xs (i + 1))]) (r := [.int v]) (y2 := PM 237) (d := 60) hx hb hml hown hts hNW hK (fun _ h => h) hl.1 hW3.swap hT2 e2 (Ev.ok l D eM) (by simp) hgM rfl rfl (law_cw_of (n := 1) [1589, 1590, 1591, 1592, 108] (by decide +kernel)) (by simp [Value.category]) (by decide) (by decide) ⟨by show cells + c1 + 0 ≤ 600000; omega, by show slots + n1 + 0 ≤ 7302250; omega⟩ (dL okL_17 21 rfl) ?_
  intro ρ4 v4 H4 locs4 hx4 hor4 hW4
  obtain ⟨_, rfl, rfl⟩ := hor4
  refine lv_icmp_eq (tgt := 1307) hx hb (dL okL_17 22 rfl) (by decide) (fun _ => ?_) (fun hne => absurd rfl hne)
  exact kk H4 locs4 _ _ ⟨ρ3, ρ4, q1, q2, hX', hM', kc - c1, kn - n1, hR', hx3 _ _ e1, hx4 _ _ e2, hW4.swap, hT1.mono hx3, hT2.mono hx4, hl, by show cells + c1 + 0 + (kc - c1) ≤ 600000; omega, by show slots + n1 + 0 + (kn - n1) ≤ 7302250; omega⟩
set_option maxHeartbeats 4000000 in
theorem law_case_18 (C : lw_C p s m meth c D b L xs) (hROk : lw_ROk Rel) (hi : i + 6 ≤ L) (hS : lw_S D s b Rel i ls H locs cells slots) (hp : pairI Rel 135 238 [.int (xs (i + 1))]) (kk : ∀ (H' : Heap) (locs' : List Loc) (cells' slots' : Nat), lw_S D s b Rel i ls H' locs' cells' slots' → W p l e room_1 s m #[Value.ref b] below meth c H' locs' cells' slots' Q (F0 m 1307 ls [])) : W p l e room_1 s m #[Value.ref b] below meth c H locs cells slots Q (F0 m 736 ls []) := by
  obtain ⟨ρ1, ρ2, q1, q2, hX, hM, kc, kn, hR, e1, e2, hW, hT1, hT2, hl, hkc, hkn⟩ := hS
  obtain ⟨v, hX', hM', c1, n1, eX, eM, hc1, hn1, hR'⟩ := hp hX hM kc kn hR
  obtain ⟨⟨fsX, hgX⟩, fsM, hgM⟩ := hROk hX hM kc kn hR
  obtain ⟨hx, hb, hml, hown, hts, hNW, hK, hXs, hbl, hL⟩ := id C
  refine lv_aload_n hx hb (dL okL_18 0 rfl) rfl (lv_at hl 1 rfl) ?_
  refine law_arg (j := 1) C hi hl hW.S (by decide) (by decide) (dL okL_18 1 rfl) (dL okL_18 2 rfl) (dL okL_18 3 rfl) (dL okL_18 4 rfl) (dL okL_18 5 rfl) ?_
  refine law_callV (as := [.int (xs (i + 1))]) (r := []) (y2 := PM 135) (d := 60) hx hb hml hown hts hNW hK (fun _ h => h) hl.1 hW hT1 e1 (Ev.ok l D eX) (by simp) hgX rfl rfl (law_cw_of (n := 1) [853, 854, 855, 856, 98] (by decide +kernel)) (by decide) (by decide) (by decide) ⟨by show cells + c1 ≤ 600000; omega, by show slots + n1 ≤ 7302250; omega⟩ (dL okL_18 6 rfl) ?_
  intro ρ3 v3 H3 locs3 hx3 hor3 hW3
  obtain ⟨_, rfl, rfl⟩ := hor3
  refine lv_aload_n hx hb (dL okL_18 7 rfl) rfl (lv_at hl 2 rfl) ?_
  refine law_arg (j := 1) C hi hl hW3.S (by decide) (by decide) (dL okL_18 8 rfl) (dL okL_18 9 rfl) (dL okL_18 10 rfl) (dL okL_18 11 rfl) (dL okL_18 12 rfl) ?_
  refine law_callV (as := [.int (xs (i + 1))]) (r := [.int v]) (y2 := PM 238) (d := 60) hx hb hml hown hts hNW hK (fun _ h => h) hl.1 hW3.swap hT2 e2 (Ev.ok l D eM) (by simp) hgM rfl rfl (law_cw_of (n := 1) [1597, 1598, 1599, 1600, 108] (by decide +kernel)) (by simp [Value.category]) (by decide) (by decide) ⟨by show cells + c1 + 0 ≤ 600000; omega, by show slots + n1 + 0 ≤ 7302250; omega⟩ (dL okL_18 13 rfl) ?_
  intro ρ4 v4 H4 locs4 hx4 hor4 hW4
  obtain ⟨_, rfl, rfl⟩ := hor4
  refine lv_icmp_eq (tgt := 1307) hx hb (dL okL_18 14 rfl) (by decide) (fun _ => ?_) (fun hne => absurd rfl hne)
  exact kk H4 locs4 _ _ ⟨ρ3, ρ4, q1, q2, hX', hM', kc - c1, kn - n1, hR', hx3 _ _ e1, hx4 _ _ e2, hW4.swap, hT1.mono hx3, hT2.mono hx4, hl, by show cells + c1 + 0 + (kc - c1) ≤ 600000; omega, by show slots + n1 + 0 + (kn - n1) ≤ 7302250; omega⟩
set_option maxHeartbeats 4000000 in
theorem law_case_19 (C : lw_C p s m meth c D b L xs) (hROk : lw_ROk Rel) (hi : i + 6 ≤ L) (hS : lw_S D s b Rel i ls H locs cells slots) (hp : pairI Rel 137 239 [.int (xs (i + 1)), .int (xs (i + 2)), .int (xs (i + 3))]) (kk : ∀ (H' : Heap) (locs' : List Loc) (cells' slots' : Nat), lw_S D s b Rel i ls H' locs' cells' slots' → W p l e room_1 s m #[Value.ref b] below meth c H' locs' cells' slots' Q (F0 m 1307 ls [])) : W p l e room_1 s m #[Value.ref b] below meth c H locs cells slots Q (F0 m 759 ls []) := by
  obtain ⟨ρ1, ρ2, q1, q2, hX, hM, kc, kn, hR, e1, e2, hW, hT1, hT2, hl, hkc, hkn⟩ := hS
  obtain ⟨v, hX', hM', c1, n1, eX, eM, hc1, hn1, hR'⟩ := hp hX hM kc kn hR
  obtain ⟨⟨fsX, hgX⟩, fsM, hgM⟩ := hROk hX hM kc kn hR
  obtain ⟨hx, hb, hml, hown, hts, hNW, hK, hXs, hbl, hL⟩ := id C
  refine lv_aload_n hx hb (dL okL_18 17 rfl) rfl (lv_at hl 1 rfl) ?_
  refine law_arg (j := 1) C hi hl hW.S (by decide) (by decide) (dL okL_18 18 rfl) (dL okL_18 19 rfl) (dL okL_18 20 rfl) (dL okL_18 21 rfl) (dL okL_18 22 rfl) ?_
  refine law_arg (j := 2) C hi hl hW.S (by decide) (by decide) (dL okL_18 23 rfl) (dL okL_18 24 rfl) (dL okL_19 0 rfl) (dL okL_19 1 rfl) (dL okL_19 2 rfl) ?_
  refine law_arg (j := 3) C hi hl hW.S (by decide) (by decide) (dL okL_19 3 rfl) (dL okL_19 4 rfl) (dL okL_19 5 rfl) (dL okL_19 6 rfl) (dL okL_19 7 rfl) ?_
  refine law_callV (as := [.int (xs (i + 1)), .int (xs (i + 2)), .int (xs (i + 3))]) (r := []) (y2 := PM 137) (d := 60) hx hb hml hown hts hNW hK (fun _ h => h) hl.1 hW hT1 e1 (Ev.ok l D eX) (by simp) hgX rfl rfl (law_cw_of (n := 3) [861, 862, 863, 864, 98] (by decide +kernel)) (by decide) (by decide) (by decide) ⟨by show cells + c1 ≤ 600000; omega, by show slots + n1 ≤ 7302250; omega⟩ (dL okL_19 8 rfl) ?_
  intro ρ3 v3 H3 locs3 hx3 hor3 hW3
  obtain ⟨_, rfl, rfl⟩ := hor3
  refine lv_aload_n hx hb (dL okL_19 9 rfl) rfl (lv_at hl 2 rfl) ?_
  refine law_arg (j := 1) C hi hl hW3.S (by decide) (by decide) (dL okL_19 10 rfl) (dL okL_19 11 rfl) (dL okL_19 12 rfl) (dL okL_19 13 rfl) (dL okL_19 14 rfl) ?_
  refine law_arg (j := 2) C hi hl hW3.S (by decide) (by decide) (dL okL_19 15 rfl) (dL okL_19 16 rfl) (dL okL_19 17 rfl) (dL okL_19 18 rfl) (dL okL_19 19 rfl) ?_
  refine law_arg (j := 3) C hi hl hW3.S (by decide) (by decide) (dL okL_19 20 rfl) (dL okL_19 21 rfl) (dL okL_19 22 rfl) (dL okL_19 23 rfl) (dL okL_19 24 rfl) ?_
  refine law_callV (as := [.int (xs (i + 1)), .int (xs (i + 2)), .int (xs (i + 3))]) (r := [.int v]) (y2 := PM 239) (d := 60) hx hb hml hown hts hNW hK (fun _ h => h) hl.1 hW3.swap hT2 e2 (Ev.ok l D eM) (by simp) hgM rfl rfl (law_cw_of (n := 3) [1601, 1602, 1603, 1604, 108] (by decide +kernel)) (by simp [Value.category]) (by decide) (by decide) ⟨by show cells + c1 + 0 ≤ 600000; omega, by show slots + n1 + 0 ≤ 7302250; omega⟩ (dL okL_20 0 rfl) ?_
  intro ρ4 v4 H4 locs4 hx4 hor4 hW4
  obtain ⟨_, rfl, rfl⟩ := hor4
  refine lv_icmp_eq (tgt := 1307) hx hb (dL okL_20 1 rfl) (by decide) (fun _ => ?_) (fun hne => absurd rfl hne)
  exact kk H4 locs4 _ _ ⟨ρ3, ρ4, q1, q2, hX', hM', kc - c1, kn - n1, hR', hx3 _ _ e1, hx4 _ _ e2, hW4.swap, hT1.mono hx3, hT2.mono hx4, hl, by show cells + c1 + 0 + (kc - c1) ≤ 600000; omega, by show slots + n1 + 0 + (kn - n1) ≤ 7302250; omega⟩
set_option maxHeartbeats 4000000 in
theorem law_case_20 (C : lw_C p s m meth c D b L xs) (hROk : lw_ROk Rel) (hi : i + 6 ≤ L) (hS : lw_S D s b Rel i ls H locs cells slots) (hp : pairI Rel 138 242 []) (kk : ∀ (H' : Heap) (locs' : List Loc) (cells' slots' : Nat), lw_S D s b Rel i ls H' locs' cells' slots' → W p l e room_1 s m #[Value.ref b] below meth c H' locs' cells' slots' Q (F0 m 1307 ls [])) : W p l e room_1 s m #[Value.ref b] below meth c H locs cells slots Q (F0 m 802 ls []) := by
  obtain ⟨ρ1, ρ2, q1, q2, hX, hM, kc, kn, hR, e1, e2, hW, hT1, hT2, hl, hkc, hkn⟩ := hS
  obtain ⟨v, hX', hM', c1, n1, eX, eM, hc1, hn1, hR'⟩ := hp hX hM kc kn hR
  obtain ⟨⟨fsX, hgX⟩, fsM, hgM⟩ := hROk hX hM kc kn hR
  obtain ⟨hx, hb, hml, hown, hts, hNW, hK, hXs, hbl, hL⟩ := id C
  refine lv_aload_n hx hb (dL okL_20 4 rfl) rfl (lv_at hl 1 rfl) ?_
  refine law_callV (as := []) (r := []) (y2 := PM 138) (d := 60) hx hb hml hown hts hNW hK (fun _ h => h) hl.1 hW hT1 e1 (Ev.ok l D eX) (by simp) hgX rfl rfl (law_cw_of (n := 0) [870, 871, 872, 873, 98] (by decide +kernel)) (by decide) (by decide) (by decide) ⟨by show cells + c1 ≤ 600000; omega, by show slots + n1 ≤ 7302250; omega⟩ (dL okL_20 5 rfl) ?_
  intro ρ3 v3 H3 locs3 hx3 hor3 hW3
  obtain ⟨_, rfl, rfl⟩ := hor3
  refine lv_aload_n hx hb (dL okL_20 6 rfl) rfl (lv_at hl 2 rfl) ?_
  refine law_callV (as := []) (r := [.int v]) (y2 := PM 242) (d := 60) hx hb hml hown hts hNW hK (fun _ h => h) hl.1 hW3.swap hT2 e2 (Ev.ok l D eM) (by simp) hgM rfl rfl (law_cw_of (n := 0) [1606, 1607, 1608, 1609, 108] (by decide +kernel)) (by simp [Value.category]) (by decide) (by decide) ⟨by show cells + c1 + 0 ≤ 600000; omega, by show slots + n1 + 0 ≤ 7302250; omega⟩ (dL okL_20 7 rfl) ?_
  intro ρ4 v4 H4 locs4 hx4 hor4 hW4
  obtain ⟨_, rfl, rfl⟩ := hor4
  refine lv_icmp_eq (tgt := 1307) hx hb (dL okL_20 8 rfl) (by decide) (fun _ => ?_) (fun hne => absurd rfl hne)
  exact kk H4 locs4 _ _ ⟨ρ3, ρ4, q1, q2, hX', hM', kc - c1, kn - n1, hR', hx3 _ _ e1, hx4 _ _ e2, hW4.swap, hT1.mono hx3, hT2.mono hx4, hl, by show cells + c1 + 0 + (kc - c1) ≤ 600000; omega, by show slots + n1 + 0 + (kn - n1) ≤ 7302250; omega⟩
set_option maxHeartbeats 4000000 in
theorem law_case_21 (C : lw_C p s m meth c D b L xs) (hROk : lw_ROk Rel) (hi : i + 6 ≤ L) (hS : lw_S D s b Rel i ls H locs cells slots) (hp : pairI Rel 139 243 []) (kk : ∀ (H' : Heap) (locs' : List Loc) (cells' slots' : Nat), lw_S D s b Rel i ls H' locs' cells' slots' → W p l e room_1 s m #[Value.ref b] below meth c H' locs' cells' slots' Q (F0 m 1307 ls [])) : W p l e room_1 s m #[Value.ref b] below meth c H locs cells slots Q (F0 m 815 ls []) := by
  obtain ⟨ρ1, ρ2, q1, q2, hX, hM, kc, kn, hR, e1, e2, hW, hT1, hT2, hl, hkc, hkn⟩ := hS
  obtain ⟨v, hX', hM', c1, n1, eX, eM, hc1, hn1, hR'⟩ := hp hX hM kc kn hR
  obtain ⟨⟨fsX, hgX⟩, fsM, hgM⟩ := hROk hX hM kc kn hR
  obtain ⟨hx, hb, hml, hown, hts, hNW, hK, hXs, hbl, hL⟩ := id C
  refine lv_aload_n hx hb (dL okL_20 11 rfl) rfl (lv_at hl 1 rfl) ?_
  refine law_callV (as := []) (r := []) (y2 := PM 139) (d := 60) hx hb hml hown hts hNW hK (fun _ h => h) hl.1 hW hT1 e1 (Ev.ok l D eX) (by simp) hgX rfl rfl (law_cw_of (n := 0) [883, 884, 885, 886, 98] (by decide +kernel)) (by decide) (by decide) (by decide) ⟨by show cells + c1 ≤ 600000; omega, by show slots + n1 ≤ 7302250; omega⟩ (dL okL_20 12 rfl) ?_
  intro ρ3 v3 H3 locs3 hx3 hor3 hW3
  obtain ⟨_, rfl, rfl⟩ := hor3
  refine lv_aload_n hx hb (dL okL_20 13 rfl) rfl (lv_at hl 2 rfl) ?_
  refine law_callV (as := []) (r := [.int v]) (y2 := PM 243) (d := 60) hx hb hml hown hts hNW hK (fun _ h => h) hl.1 hW3.swap hT2 e2 (Ev.ok l D eM) (by simp) hgM rfl rfl (law_cw_of (n := 0) [1610, 1611, 1612, 1613, 108] (by decide +kernel)) (by simp [Value.category]) (by decide) (by decide) ⟨by show cells + c1 + 0 ≤ 600000; omega, by show slots + n1 + 0 ≤ 7302250; omega⟩ (dL okL_20 14 rfl) ?_
  intro ρ4 v4 H4 locs4 hx4 hor4 hW4
  obtain ⟨_, rfl, rfl⟩ := hor4
  refine lv_icmp_eq (tgt := 1307) hx hb (dL okL_20 15 rfl) (by decide) (fun _ => ?_) (fun hne => absurd rfl hne)
  exact kk H4 locs4 _ _ ⟨ρ3, ρ4, q1, q2, hX', hM', kc - c1, kn - n1, hR', hx3 _ _ e1, hx4 _ _ e2, hW4.swap, hT1.mono hx3, hT2.mono hx4, hl, by show cells + c1 + 0 + (kc - c1) ≤ 600000; omega, by show slots + n1 + 0 + (kn - n1) ≤ 7302250; omega⟩
set_option maxHeartbeats 4000000 in
theorem law_case_22 (C : lw_C p s m meth c D b L xs) (hROk : lw_ROk Rel) (hi : i + 6 ≤ L) (hS : lw_S D s b Rel i ls H locs cells slots) (hp : pairI Rel 140 244 []) (kk : ∀ (H' : Heap) (locs' : List Loc) (cells' slots' : Nat), lw_S D s b Rel i ls H' locs' cells' slots' → W p l e room_1 s m #[Value.ref b] below meth c H' locs' cells' slots' Q (F0 m 1307 ls [])) : W p l e room_1 s m #[Value.ref b] below meth c H locs cells slots Q (F0 m 828 ls []) := by
  obtain ⟨ρ1, ρ2, q1, q2, hX, hM, kc, kn, hR, e1, e2, hW, hT1, hT2, hl, hkc, hkn⟩ := hS
  obtain ⟨v, hX', hM', c1, n1, eX, eM, hc1, hn1, hR'⟩ := hp hX hM kc kn hR
  obtain ⟨⟨fsX, hgX⟩, fsM, hgM⟩ := hROk hX hM kc kn hR
  obtain ⟨hx, hb, hml, hown, hts, hNW, hK, hXs, hbl, hL⟩ := id C
  refine lv_aload_n hx hb (dL okL_20 18 rfl) rfl (lv_at hl 1 rfl) ?_
  refine law_callV (as := []) (r := []) (y2 := PM 140) (d := 60) hx hb hml hown hts hNW hK (fun _ h => h) hl.1 hW hT1 e1 (Ev.ok l D eX) (by simp) hgX rfl rfl (law_cw_of (n := 0) [899, 900, 901, 902, 98] (by decide +kernel)) (by decide) (by decide) (by decide) ⟨by show cells + c1 ≤ 600000; omega, by show slots + n1 ≤ 7302250; omega⟩ (dL okL_20 19 rfl) ?_
  intro ρ3 v3 H3 locs3 hx3 hor3 hW3
  obtain ⟨_, rfl, rfl⟩ := hor3
  refine lv_aload_n hx hb (dL okL_20 20 rfl) rfl (lv_at hl 2 rfl) ?_
  refine law_callV (as := []) (r := [.int v]) (y2 := PM 244) (d := 60) hx hb hml hown hts hNW hK (fun _ h => h) hl.1 hW3.swap hT2 e2 (Ev.ok l D eM) (by simp) hgM rfl rfl (law_cw_of (n := 0) [1618, 1619, 1620, 1621, 108] (by decide +kernel)) (by simp [Value.category]) (by decide) (by decide) ⟨by show cells + c1 + 0 ≤ 600000; omega, by show slots + n1 + 0 ≤ 7302250; omega⟩ (dL okL_20 21 rfl) ?_
  intro ρ4 v4 H4 locs4 hx4 hor4 hW4
  obtain ⟨_, rfl, rfl⟩ := hor4
  refine lv_icmp_eq (tgt := 1307) hx hb (dL okL_20 22 rfl) (by decide) (fun _ => ?_) (fun hne => absurd rfl hne)
  exact kk H4 locs4 _ _ ⟨ρ3, ρ4, q1, q2, hX', hM', kc - c1, kn - n1, hR', hx3 _ _ e1, hx4 _ _ e2, hW4.swap, hT1.mono hx3, hT2.mono hx4, hl, by show cells + c1 + 0 + (kc - c1) ≤ 600000; omega, by show slots + n1 + 0 + (kn - n1) ≤ 7302250; omega⟩
set_option maxHeartbeats 4000000 in
theorem law_case_23 (C : lw_C p s m meth c D b L xs) (hROk : lw_ROk Rel) (hi : i + 6 ≤ L) (hS : lw_S D s b Rel i ls H locs cells slots) (hp : pairI Rel 141 245 [.int (xs (i + 1))]) (kk : ∀ (H' : Heap) (locs' : List Loc) (cells' slots' : Nat), lw_S D s b Rel i ls H' locs' cells' slots' → W p l e room_1 s m #[Value.ref b] below meth c H' locs' cells' slots' Q (F0 m 1307 ls [])) : W p l e room_1 s m #[Value.ref b] below meth c H locs cells slots Q (F0 m 841 ls []) := by
  obtain ⟨ρ1, ρ2, q1, q2, hX, hM, kc, kn, hR, e1, e2, hW, hT1, hT2, hl, hkc, hkn⟩ := hS
  obtain ⟨v, hX', hM', c1, n1, eX, eM, hc1, hn1, hR'⟩ := hp hX hM kc kn hR
  obtain ⟨⟨fsX, hgX⟩, fsM, hgM⟩ := hROk hX hM kc kn hR
  obtain ⟨hx, hb, hml, hown, hts, hNW, hK, hXs, hbl, hL⟩ := id C
  refine lv_aload_n hx hb (dL okL_21 0 rfl) rfl (lv_at hl 1 rfl) ?_
  refine law_arg (j := 1) C hi hl hW.S (by decide) (by decide) (dL okL_21 1 rfl) (dL okL_21 2 rfl) (dL okL_21 3 rfl) (dL okL_21 4 rfl) (dL okL_21 5 rfl) ?_
  refine law_callV (as := [.int (xs (i + 1))]) (r := []) (y2 := PM 141) (d := 60) hx hb hml hown hts hNW hK (fun _ h => h) hl.1 hW hT1 e1 (Ev.ok l D eX) (by simp) hgX rfl rfl (law_cw_of (n := 1) [904, 905, 906, 907, 98] (by decide +kernel)) (by decide) (by decide) (by decide) ⟨by show cells + c1 ≤ 600000; omega, by show slots + n1 ≤ 7302250; omega⟩ (dL okL_21 6 rfl) ?_
  intro ρ3 v3 H3 locs3 hx3 hor3 hW3
  obtain ⟨_, rfl, rfl⟩ := hor3
  refine lv_aload_n hx hb (dL okL_21 7 rfl) rfl (lv_at hl 2 rfl) ?_
  refine law_arg (j := 1) C hi hl hW3.S (by decide) (by decide) (dL okL_21 8 rfl) (dL okL_21 9 rfl) (dL okL_21 10 rfl) (dL okL_21 11 rfl) (dL okL_21 12 rfl) ?_
  refine law_callV (as := [.int (xs (i + 1))]) (r := [.int v]) (y2 := PM 245) (d := 60) hx hb hml hown hts hNW hK (fun _ h => h) hl.1 hW3.swap hT2 e2 (Ev.ok l D eM) (by simp) hgM rfl rfl (law_cw_of (n := 1) [1626, 1627, 1628, 1629, 108] (by decide +kernel)) (by simp [Value.category]) (by decide) (by decide) ⟨by show cells + c1 + 0 ≤ 600000; omega, by show slots + n1 + 0 ≤ 7302250; omega⟩ (dL okL_21 13 rfl) ?_
  intro ρ4 v4 H4 locs4 hx4 hor4 hW4
  obtain ⟨_, rfl, rfl⟩ := hor4
  refine lv_icmp_eq (tgt := 1307) hx hb (dL okL_21 14 rfl) (by decide) (fun _ => ?_) (fun hne => absurd rfl hne)
  exact kk H4 locs4 _ _ ⟨ρ3, ρ4, q1, q2, hX', hM', kc - c1, kn - n1, hR', hx3 _ _ e1, hx4 _ _ e2, hW4.swap, hT1.mono hx3, hT2.mono hx4, hl, by show cells + c1 + 0 + (kc - c1) ≤ 600000; omega, by show slots + n1 + 0 + (kn - n1) ≤ 7302250; omega⟩
set_option maxHeartbeats 4000000 in
theorem law_case_24 (C : lw_C p s m meth c D b L xs) (hROk : lw_ROk Rel) (hi : i + 6 ≤ L) (hS : lw_S D s b Rel i ls H locs cells slots) (hp : pairI Rel 142 246 []) (kk : ∀ (H' : Heap) (locs' : List Loc) (cells' slots' : Nat), lw_S D s b Rel i ls H' locs' cells' slots' → W p l e room_1 s m #[Value.ref b] below meth c H' locs' cells' slots' Q (F0 m 1307 ls [])) : W p l e room_1 s m #[Value.ref b] below meth c H locs cells slots Q (F0 m 864 ls []) := by
  obtain ⟨ρ1, ρ2, q1, q2, hX, hM, kc, kn, hR, e1, e2, hW, hT1, hT2, hl, hkc, hkn⟩ := hS
  obtain ⟨v, hX', hM', c1, n1, eX, eM, hc1, hn1, hR'⟩ := hp hX hM kc kn hR
  obtain ⟨⟨fsX, hgX⟩, fsM, hgM⟩ := hROk hX hM kc kn hR
  obtain ⟨hx, hb, hml, hown, hts, hNW, hK, hXs, hbl, hL⟩ := id C
  refine lv_aload_n hx hb (dL okL_21 17 rfl) rfl (lv_at hl 1 rfl) ?_
  refine law_callV (as := []) (r := []) (y2 := PM 142) (d := 60) hx hb hml hown hts hNW hK (fun _ h => h) hl.1 hW hT1 e1 (Ev.ok l D eX) (by simp) hgX rfl rfl (law_cw_of (n := 0) [908, 909, 910, 911, 98] (by decide +kernel)) (by decide) (by decide) (by decide) ⟨by show cells + c1 ≤ 600000; omega, by show slots + n1 ≤ 7302250; omega⟩ (dL okL_21 18 rfl) ?_
  intro ρ3 v3 H3 locs3 hx3 hor3 hW3
  obtain ⟨_, rfl, rfl⟩ := hor3
  refine lv_aload_n hx hb (dL okL_21 19 rfl) rfl (lv_at hl 2 rfl) ?_
  refine law_callV (as := []) (r := [.int v]) (y2 := PM 246) (d := 60) hx hb hml hown hts hNW hK (fun _ h => h) hl.1 hW3.swap hT2 e2 (Ev.ok l D eM) (by simp) hgM rfl rfl (law_cw_of (n := 0) [1630, 1631, 1632, 1633, 108] (by decide +kernel)) (by simp [Value.category]) (by decide) (by decide) ⟨by show cells + c1 + 0 ≤ 600000; omega, by show slots + n1 + 0 ≤ 7302250; omega⟩ (dL okL_21 20 rfl) ?_
  intro ρ4 v4 H4 locs4 hx4 hor4 hW4
  obtain ⟨_, rfl, rfl⟩ := hor4
  refine lv_icmp_eq (tgt := 1307) hx hb (dL okL_21 21 rfl) (by decide) (fun _ => ?_) (fun hne => absurd rfl hne)
  exact kk H4 locs4 _ _ ⟨ρ3, ρ4, q1, q2, hX', hM', kc - c1, kn - n1, hR', hx3 _ _ e1, hx4 _ _ e2, hW4.swap, hT1.mono hx3, hT2.mono hx4, hl, by show cells + c1 + 0 + (kc - c1) ≤ 600000; omega, by show slots + n1 + 0 + (kn - n1) ≤ 7302250; omega⟩
set_option maxHeartbeats 4000000 in
theorem law_case_25 (C : lw_C p s m meth c D b L xs) (hROk : lw_ROk Rel) (hi : i + 6 ≤ L) (hS : lw_S D s b Rel i ls H locs cells slots) (hp : pairI Rel 143 247 []) (kk : ∀ (H' : Heap) (locs' : List Loc) (cells' slots' : Nat), lw_S D s b Rel i ls H' locs' cells' slots' → W p l e room_1 s m #[Value.ref b] below meth c H' locs' cells' slots' Q (F0 m 1307 ls [])) : W p l e room_1 s m #[Value.ref b] below meth c H locs cells slots Q (F0 m 877 ls []) := by
  obtain ⟨ρ1, ρ2, q1, q2, hX, hM, kc, kn, hR, e1, e2, hW, hT1, hT2, hl, hkc, hkn⟩ := hS
  obtain ⟨v, hX', hM', c1, n1, eX, eM, hc1, hn1, hR'⟩ := hp hX hM kc kn hR
  obtain ⟨⟨fsX, hgX⟩, fsM, hgM⟩ := hROk hX hM kc kn hR
  obtain ⟨hx, hb, hml, hown, hts, hNW, hK, hXs, hbl, hL⟩ := id C
  refine lv_aload_n hx hb (dL okL_21 24 rfl) rfl (lv_at hl 1 rfl) ?_
  refine law_callV (as := []) (r := []) (y2 := PM 143) (d := 60) hx hb hml hown hts hNW hK (fun _ h => h) hl.1 hW hT1 e1 (Ev.ok l D eX) (by simp) hgX rfl rfl (law_cw_of (n := 0) [921, 922, 923, 924, 98] (by decide +kernel)) (by decide) (by decide) (by decide) ⟨by show cells + c1 ≤ 600000; omega, by show slots + n1 ≤ 7302250; omega⟩ (dL okL_22 0 rfl) ?_
  intro ρ3 v3 H3 locs3 hx3 hor3 hW3
  obtain ⟨_, rfl, rfl⟩ := hor3
  refine lv_aload_n hx hb (dL okL_22 1 rfl) rfl (lv_at hl 2 rfl) ?_
  refine law_callV (as := []) (r := [.int v]) (y2 := PM 247) (d := 60) hx hb hml hown hts hNW hK (fun _ h => h) hl.1 hW3.swap hT2 e2 (Ev.ok l D eM) (by simp) hgM rfl rfl (law_cw_of (n := 0) [1634, 1635, 1636, 1637, 108] (by decide +kernel)) (by simp [Value.category]) (by decide) (by decide) ⟨by show cells + c1 + 0 ≤ 600000; omega, by show slots + n1 + 0 ≤ 7302250; omega⟩ (dL okL_22 2 rfl) ?_
  intro ρ4 v4 H4 locs4 hx4 hor4 hW4
  obtain ⟨_, rfl, rfl⟩ := hor4
  refine lv_icmp_eq (tgt := 1307) hx hb (dL okL_22 3 rfl) (by decide) (fun _ => ?_) (fun hne => absurd rfl hne)
  exact kk H4 locs4 _ _ ⟨ρ3, ρ4, q1, q2, hX', hM', kc - c1, kn - n1, hR', hx3 _ _ e1, hx4 _ _ e2, hW4.swap, hT1.mono hx3, hT2.mono hx4, hl, by show cells + c1 + 0 + (kc - c1) ≤ 600000; omega, by show slots + n1 + 0 + (kn - n1) ≤ 7302250; omega⟩
set_option maxHeartbeats 4000000 in
theorem law_case_26 (C : lw_C p s m meth c D b L xs) (hROk : lw_ROk Rel) (hi : i + 6 ≤ L) (hS : lw_S D s b Rel i ls H locs cells slots) (hp : pairI Rel 144 173 []) (kk : ∀ (H' : Heap) (locs' : List Loc) (cells' slots' : Nat), lw_S D s b Rel i ls H' locs' cells' slots' → W p l e room_1 s m #[Value.ref b] below meth c H' locs' cells' slots' Q (F0 m 1307 ls [])) : W p l e room_1 s m #[Value.ref b] below meth c H locs cells slots Q (F0 m 890 ls []) := by
  obtain ⟨ρ1, ρ2, q1, q2, hX, hM, kc, kn, hR, e1, e2, hW, hT1, hT2, hl, hkc, hkn⟩ := hS
  obtain ⟨v, hX', hM', c1, n1, eX, eM, hc1, hn1, hR'⟩ := hp hX hM kc kn hR
  obtain ⟨⟨fsX, hgX⟩, fsM, hgM⟩ := hROk hX hM kc kn hR
  obtain ⟨hx, hb, hml, hown, hts, hNW, hK, hXs, hbl, hL⟩ := id C
  refine lv_aload_n hx hb (dL okL_22 6 rfl) rfl (lv_at hl 1 rfl) ?_
  refine law_callV (as := []) (r := []) (y2 := PM 144) (d := 60) hx hb hml hown hts hNW hK (fun _ h => h) hl.1 hW hT1 e1 (Ev.ok l D eX) (by simp) hgX rfl rfl (law_cw_of (n := 0) [929, 930, 931, 932, 98] (by decide +kernel)) (by decide) (by decide) (by decide) ⟨by show cells + c1 ≤ 600000; omega, by show slots + n1 ≤ 7302250; omega⟩ (dL okL_22 7 rfl) ?_
  intro ρ3 v3 H3 locs3 hx3 hor3 hW3
  obtain ⟨_, rfl, rfl⟩ := hor3
  refine lv_aload_n hx hb (dL okL_22 8 rfl) rfl (lv_at hl 2 rfl) ?_
  refine law_callV (as := []) (r := [.int v]) (y2 := PM 173) (d := 60) hx hb hml hown hts hNW hK (fun _ h => h) hl.1 hW3.swap hT2 e2 (Ev.ok l D eM) (by simp) hgM rfl rfl (law_cw_of (n := 0) [1291, 1292, 1293, 1294, 108] (by decide +kernel)) (by simp [Value.category]) (by decide) (by decide) ⟨by show cells + c1 + 0 ≤ 600000; omega, by show slots + n1 + 0 ≤ 7302250; omega⟩ (dL okL_22 9 rfl) ?_
  intro ρ4 v4 H4 locs4 hx4 hor4 hW4
  obtain ⟨_, rfl, rfl⟩ := hor4
  refine lv_icmp_eq (tgt := 1307) hx hb (dL okL_22 10 rfl) (by decide) (fun _ => ?_) (fun hne => absurd rfl hne)
  exact kk H4 locs4 _ _ ⟨ρ3, ρ4, q1, q2, hX', hM', kc - c1, kn - n1, hR', hx3 _ _ e1, hx4 _ _ e2, hW4.swap, hT1.mono hx3, hT2.mono hx4, hl, by show cells + c1 + 0 + (kc - c1) ≤ 600000; omega, by show slots + n1 + 0 + (kn - n1) ≤ 7302250; omega⟩
set_option maxHeartbeats 4000000 in
theorem law_case_27 (C : lw_C p s m meth c D b L xs) (hROk : lw_ROk Rel) (hi : i + 6 ≤ L) (hS : lw_S D s b Rel i ls H locs cells slots) (hp : pairI Rel 145 174 []) (kk : ∀ (H' : Heap) (locs' : List Loc) (cells' slots' : Nat), lw_S D s b Rel i ls H' locs' cells' slots' → W p l e room_1 s m #[Value.ref b] below meth c H' locs' cells' slots' Q (F0 m 1307 ls [])) : W p l e room_1 s m #[Value.ref b] below meth c H locs cells slots Q (F0 m 903 ls []) := by
  obtain ⟨ρ1, ρ2, q1, q2, hX, hM, kc, kn, hR, e1, e2, hW, hT1, hT2, hl, hkc, hkn⟩ := hS
  obtain ⟨v, hX', hM', c1, n1, eX, eM, hc1, hn1, hR'⟩ := hp hX hM kc kn hR
  obtain ⟨⟨fsX, hgX⟩, fsM, hgM⟩ := hROk hX hM kc kn hR
  obtain ⟨hx, hb, hml, hown, hts, hNW, hK, hXs, hbl, hL⟩ := id C
  refine lv_aload_n hx hb (dL okL_22 13 rfl) rfl (lv_at hl 1 rfl) ?_
  refine law_callV (as := []) (r := []) (y2 := PM 145) (d := 60) hx hb hml hown hts hNW hK (fun _ h => h) hl.1 hW hT1 e1 (Ev.ok l D eX) (by simp) hgX rfl rfl (law_cw_of (n := 0) [941, 942, 943, 944, 98] (by decide +kernel)) (by decide) (by decide) (by decide) ⟨by show cells + c1 ≤ 600000; omega, by show slots + n1 ≤ 7302250; omega⟩ (dL okL_22 14 rfl) ?_
  intro ρ3 v3 H3 locs3 hx3 hor3 hW3
  obtain ⟨_, rfl, rfl⟩ := hor3
  refine lv_aload_n hx hb (dL okL_22 15 rfl) rfl (lv_at hl 2 rfl) ?_
  refine law_callV (as := []) (r := [.int v]) (y2 := PM 174) (d := 60) hx hb hml hown hts hNW hK (fun _ h => h) hl.1 hW3.swap hT2 e2 (Ev.ok l D eM) (by simp) hgM rfl rfl (law_cw_of (n := 0) [1299, 1300, 1301, 1302, 108] (by decide +kernel)) (by simp [Value.category]) (by decide) (by decide) ⟨by show cells + c1 + 0 ≤ 600000; omega, by show slots + n1 + 0 ≤ 7302250; omega⟩ (dL okL_22 16 rfl) ?_
  intro ρ4 v4 H4 locs4 hx4 hor4 hW4
  obtain ⟨_, rfl, rfl⟩ := hor4
  refine lv_icmp_eq (tgt := 1307) hx hb (dL okL_22 17 rfl) (by decide) (fun _ => ?_) (fun hne => absurd rfl hne)
  exact kk H4 locs4 _ _ ⟨ρ3, ρ4, q1, q2, hX', hM', kc - c1, kn - n1, hR', hx3 _ _ e1, hx4 _ _ e2, hW4.swap, hT1.mono hx3, hT2.mono hx4, hl, by show cells + c1 + 0 + (kc - c1) ≤ 600000; omega, by show slots + n1 + 0 + (kn - n1) ≤ 7302250; omega⟩
set_option maxHeartbeats 4000000 in
theorem law_case_28 (C : lw_C p s m meth c D b L xs) (hROk : lw_ROk Rel) (hi : i + 6 ≤ L) (hS : lw_S D s b Rel i ls H locs cells slots) (hp : pairI Rel 146 252 [.int (xs (i + 1))]) (kk : ∀ (H' : Heap) (locs' : List Loc) (cells' slots' : Nat), lw_S D s b Rel i ls H' locs' cells' slots' → W p l e room_1 s m #[Value.ref b] below meth c H' locs' cells' slots' Q (F0 m 1307 ls [])) : W p l e room_1 s m #[Value.ref b] below meth c H locs cells slots Q (F0 m 916 ls []) := by
  obtain ⟨ρ1, ρ2, q1, q2, hX, hM, kc, kn, hR, e1, e2, hW, hT1, hT2, hl, hkc, hkn⟩ := hS
  obtain ⟨v, hX', hM', c1, n1, eX, eM, hc1, hn1, hR'⟩ := hp hX hM kc kn hR
  obtain ⟨⟨fsX, hgX⟩, fsM, hgM⟩ := hROk hX hM kc kn hR
  obtain ⟨hx, hb, hml, hown, hts, hNW, hK, hXs, hbl, hL⟩ := id C
  refine lv_aload_n hx hb (dL okL_22 20 rfl) rfl (lv_at hl 1 rfl) ?_
  refine law_arg (j := 1) C hi hl hW.S (by decide) (by decide) (dL okL_22 21 rfl) (dL okL_22 22 rfl) (dL okL_22 23 rfl) (dL okL_22 24 rfl) (dL okL_23 0 rfl) ?_
  refine law_callV (as := [.int (xs (i + 1))]) (r := []) (y2 := PM 146) (d := 60) hx hb hml hown hts hNW hK (fun _ h => h) hl.1 hW hT1 e1 (Ev.ok l D eX) (by simp) hgX rfl rfl (law_cw_of (n := 1) [953, 954, 955, 956, 98] (by decide +kernel)) (by decide) (by decide) (by decide) ⟨by show cells + c1 ≤ 600000; omega, by show slots + n1 ≤ 7302250; omega⟩ (dL okL_23 1 rfl) ?_
  intro ρ3 v3 H3 locs3 hx3 hor3 hW3
  obtain ⟨_, rfl, rfl⟩ := hor3
  refine lv_aload_n hx hb (dL okL_23 2 rfl) rfl (lv_at hl 2 rfl) ?_
  refine law_arg (j := 1) C hi hl hW3.S (by decide) (by decide) (dL okL_23 3 rfl) (dL okL_23 4 rfl) (dL okL_23 5 rfl) (dL okL_23 6 rfl) (dL okL_23 7 rfl) ?_
  refine law_callV (as := [.int (xs (i + 1))]) (r := [.int v]) (y2 := PM 252) (d := 60) hx hb hml hown hts hNW hK (fun _ h => h) hl.1 hW3.swap hT2 e2 (Ev.ok l D eM) (by simp) hgM rfl rfl (law_cw_of (n := 1) [1642, 1643, 1644, 1645, 108] (by decide +kernel)) (by simp [Value.category]) (by decide) (by decide) ⟨by show cells + c1 + 0 ≤ 600000; omega, by show slots + n1 + 0 ≤ 7302250; omega⟩ (dL okL_23 8 rfl) ?_
  intro ρ4 v4 H4 locs4 hx4 hor4 hW4
  obtain ⟨_, rfl, rfl⟩ := hor4
  refine lv_icmp_eq (tgt := 1307) hx hb (dL okL_23 9 rfl) (by decide) (fun _ => ?_) (fun hne => absurd rfl hne)
  exact kk H4 locs4 _ _ ⟨ρ3, ρ4, q1, q2, hX', hM', kc - c1, kn - n1, hR', hx3 _ _ e1, hx4 _ _ e2, hW4.swap, hT1.mono hx3, hT2.mono hx4, hl, by show cells + c1 + 0 + (kc - c1) ≤ 600000; omega, by show slots + n1 + 0 + (kn - n1) ≤ 7302250; omega⟩
set_option maxHeartbeats 4000000 in
theorem law_case_29 (C : lw_C p s m meth c D b L xs) (hROk : lw_ROk Rel) (hi : i + 6 ≤ L) (hS : lw_S D s b Rel i ls H locs cells slots) (hp : pairI Rel 147 265 [.int (xs (i + 1)), .int (xs (i + 2)), .int (xs (i + 3))]) (kk : ∀ (H' : Heap) (locs' : List Loc) (cells' slots' : Nat), lw_S D s b Rel i ls H' locs' cells' slots' → W p l e room_1 s m #[Value.ref b] below meth c H' locs' cells' slots' Q (F0 m 1307 ls [])) : W p l e room_1 s m #[Value.ref b] below meth c H locs cells slots Q (F0 m 939 ls []) := by
  obtain ⟨ρ1, ρ2, q1, q2, hX, hM, kc, kn, hR, e1, e2, hW, hT1, hT2, hl, hkc, hkn⟩ := hS
  obtain ⟨v, hX', hM', c1, n1, eX, eM, hc1, hn1, hR'⟩ := hp hX hM kc kn hR
  obtain ⟨⟨fsX, hgX⟩, fsM, hgM⟩ := hROk hX hM kc kn hR
  obtain ⟨hx, hb, hml, hown, hts, hNW, hK, hXs, hbl, hL⟩ := id C
  refine lv_aload_n hx hb (dL okL_23 12 rfl) rfl (lv_at hl 1 rfl) ?_
  refine law_arg (j := 1) C hi hl hW.S (by decide) (by decide) (dL okL_23 13 rfl) (dL okL_23 14 rfl) (dL okL_23 15 rfl) (dL okL_23 16 rfl) (dL okL_23 17 rfl) ?_
  refine law_arg (j := 2) C hi hl hW.S (by decide) (by decide) (dL okL_23 18 rfl) (dL okL_23 19 rfl) (dL okL_23 20 rfl) (dL okL_23 21 rfl) (dL okL_23 22 rfl) ?_
  refine law_arg (j := 3) C hi hl hW.S (by decide) (by decide) (dL okL_23 23 rfl) (dL okL_23 24 rfl) (dL okL_24 0 rfl) (dL okL_24 1 rfl) (dL okL_24 2 rfl) ?_
  refine law_callV (as := [.int (xs (i + 1)), .int (xs (i + 2)), .int (xs (i + 3))]) (r := []) (y2 := PM 147) (d := 60) hx hb hml hown hts hNW hK (fun _ h => h) hl.1 hW hT1 e1 (Ev.ok l D eX) (by simp) hgX rfl rfl (law_cw_of (n := 3) [965, 966, 967, 968, 98] (by decide +kernel)) (by decide) (by decide) (by decide) ⟨by show cells + c1 ≤ 600000; omega, by show slots + n1 ≤ 7302250; omega⟩ (dL okL_24 3 rfl) ?_
  intro ρ3 v3 H3 locs3 hx3 hor3 hW3
  obtain ⟨_, rfl, rfl⟩ := hor3
  refine lv_aload_n hx hb (dL okL_24 4 rfl) rfl (lv_at hl 2 rfl) ?_
  refine law_arg (j := 1) C hi hl hW3.S (by decide) (by decide) (dL okL_24 5 rfl) (dL okL_24 6 rfl) (dL okL_24 7 rfl) (dL okL_24 8 rfl) (dL okL_24 9 rfl) ?_
  refine law_arg (j := 2) C hi hl hW3.S (by decide) (by decide) (dL okL_24 10 rfl) (dL okL_24 11 rfl) (dL okL_24 12 rfl) (dL okL_24 13 rfl) (dL okL_24 14 rfl) ?_
  refine law_arg (j := 3) C hi hl hW3.S (by decide) (by decide) (dL okL_24 15 rfl) (dL okL_24 16 rfl) (dL okL_24 17 rfl) (dL okL_24 18 rfl) (dL okL_24 19 rfl) ?_
  refine law_callV (as := [.int (xs (i + 1)), .int (xs (i + 2)), .int (xs (i + 3))]) (r := [.int v]) (y2 := PM 265) (d := 60) hx hb hml hown hts hNW hK (fun _ h => h) hl.1 hW3.swap hT2 e2 (Ev.ok l D eM) (by simp) hgM rfl rfl (law_cw_of (n := 3) [1646, 1647, 1648, 1649, 108] (by decide +kernel)) (by simp [Value.category]) (by decide) (by decide) ⟨by show cells + c1 + 0 ≤ 600000; omega, by show slots + n1 + 0 ≤ 7302250; omega⟩ (dL okL_24 20 rfl) ?_
  intro ρ4 v4 H4 locs4 hx4 hor4 hW4
  obtain ⟨_, rfl, rfl⟩ := hor4
  refine lv_icmp_eq (tgt := 1307) hx hb (dL okL_24 21 rfl) (by decide) (fun _ => ?_) (fun hne => absurd rfl hne)
  exact kk H4 locs4 _ _ ⟨ρ3, ρ4, q1, q2, hX', hM', kc - c1, kn - n1, hR', hx3 _ _ e1, hx4 _ _ e2, hW4.swap, hT1.mono hx3, hT2.mono hx4, hl, by show cells + c1 + 0 + (kc - c1) ≤ 600000; omega, by show slots + n1 + 0 + (kn - n1) ≤ 7302250; omega⟩
set_option maxHeartbeats 4000000 in
theorem law_case_30 (C : lw_C p s m meth c D b L xs) (hROk : lw_ROk Rel) (hi : i + 6 ≤ L) (hS : lw_S D s b Rel i ls H locs cells slots) (hp : pairI Rel 148 251 [.int (xs (i + 1))]) (kk : ∀ (H' : Heap) (locs' : List Loc) (cells' slots' : Nat), lw_S D s b Rel i ls H' locs' cells' slots' → W p l e room_1 s m #[Value.ref b] below meth c H' locs' cells' slots' Q (F0 m 1307 ls [])) : W p l e room_1 s m #[Value.ref b] below meth c H locs cells slots Q (F0 m 982 ls []) := by
  obtain ⟨ρ1, ρ2, q1, q2, hX, hM, kc, kn, hR, e1, e2, hW, hT1, hT2, hl, hkc, hkn⟩ := hS
  obtain ⟨v, hX', hM', c1, n1, eX, eM, hc1, hn1, hR'⟩ := hp hX hM kc kn hR
  obtain ⟨⟨fsX, hgX⟩, fsM, hgM⟩ := hROk hX hM kc kn hR
  obtain ⟨hx, hb, hml, hown, hts, hNW, hK, hXs, hbl, hL⟩ := id C
  refine lv_aload_n hx hb (dL okL_24 24 rfl) rfl (lv_at hl 1 rfl) ?_
  refine law_arg (j := 1) C hi hl hW.S (by decide) (by decide) (dL okL_25 0 rfl) (dL okL_25 1 rfl) (dL okL_25 2 rfl) (dL okL_25 3 rfl) (dL okL_25 4 rfl) ?_
  refine law_callV (as := [.int (xs (i + 1))]) (r := []) (y2 := PM 148) (d := 60) hx hb hml hown hts hNW hK (fun _ h => h) hl.1 hW hT1 e1 (Ev.ok l D eX) (by simp) hgX rfl rfl (law_cw_of (n := 1) [1001, 1002, 1003, 1004, 98] (by decide +kernel)) (by decide) (by decide) (by decide) ⟨by show cells + c1 ≤ 600000; omega, by show slots + n1 ≤ 7302250; omega⟩ (dL okL_25 5 rfl) ?_
  intro ρ3 v3 H3 locs3 hx3 hor3 hW3
  obtain ⟨_, rfl, rfl⟩ := hor3
  refine lv_aload_n hx hb (dL okL_25 6 rfl) rfl (lv_at hl 2 rfl) ?_
  refine law_arg (j := 1) C hi hl hW3.S (by decide) (by decide) (dL okL_25 7 rfl) (dL okL_25 8 rfl) (dL okL_25 9 rfl) (dL okL_25 10 rfl) (dL okL_25 11 rfl) ?_
  refine law_callV (as := [.int (xs (i + 1))]) (r := [.int v]) (y2 := PM 251) (d := 60) hx hb hml hown hts hNW hK (fun _ h => h) hl.1 hW3.swap hT2 e2 (Ev.ok l D eM) (by simp) hgM rfl rfl (law_cw_of (n := 1) [1638, 1639, 1640, 1641, 108] (by decide +kernel)) (by simp [Value.category]) (by decide) (by decide) ⟨by show cells + c1 + 0 ≤ 600000; omega, by show slots + n1 + 0 ≤ 7302250; omega⟩ (dL okL_25 12 rfl) ?_
  intro ρ4 v4 H4 locs4 hx4 hor4 hW4
  obtain ⟨_, rfl, rfl⟩ := hor4
  refine lv_icmp_eq (tgt := 1307) hx hb (dL okL_25 13 rfl) (by decide) (fun _ => ?_) (fun hne => absurd rfl hne)
  exact kk H4 locs4 _ _ ⟨ρ3, ρ4, q1, q2, hX', hM', kc - c1, kn - n1, hR', hx3 _ _ e1, hx4 _ _ e2, hW4.swap, hT1.mono hx3, hT2.mono hx4, hl, by show cells + c1 + 0 + (kc - c1) ≤ 600000; omega, by show slots + n1 + 0 + (kn - n1) ≤ 7302250; omega⟩
set_option maxHeartbeats 4000000 in
theorem law_case_31 (C : lw_C p s m meth c D b L xs) (hROk : lw_ROk Rel) (hi : i + 6 ≤ L) (hS : lw_S D s b Rel i ls H locs cells slots) (hp : pairI Rel 149 268 [.int (xs (i + 1)), .int (xs (i + 2))]) (kk : ∀ (H' : Heap) (locs' : List Loc) (cells' slots' : Nat), lw_S D s b Rel i ls H' locs' cells' slots' → W p l e room_1 s m #[Value.ref b] below meth c H' locs' cells' slots' Q (F0 m 1307 ls [])) : W p l e room_1 s m #[Value.ref b] below meth c H locs cells slots Q (F0 m 1005 ls []) := by
  obtain ⟨ρ1, ρ2, q1, q2, hX, hM, kc, kn, hR, e1, e2, hW, hT1, hT2, hl, hkc, hkn⟩ := hS
  obtain ⟨v, hX', hM', c1, n1, eX, eM, hc1, hn1, hR'⟩ := hp hX hM kc kn hR
  obtain ⟨⟨fsX, hgX⟩, fsM, hgM⟩ := hROk hX hM kc kn hR
  obtain ⟨hx, hb, hml, hown, hts, hNW, hK, hXs, hbl, hL⟩ := id C
  refine lv_aload_n hx hb (dL okL_25 16 rfl) rfl (lv_at hl 1 rfl) ?_
  refine law_arg (j := 1) C hi hl hW.S (by decide) (by decide) (dL okL_25 17 rfl) (dL okL_25 18 rfl) (dL okL_25 19 rfl) (dL okL_25 20 rfl) (dL okL_25 21 rfl) ?_
  refine law_arg (j := 2) C hi hl hW.S (by decide) (by decide) (dL okL_25 22 rfl) (dL okL_25 23 rfl) (dL okL_25 24 rfl) (dL okL_26 0 rfl) (dL okL_26 1 rfl) ?_
  refine law_callV (as := [.int (xs (i + 1)), .int (xs (i + 2))]) (r := []) (y2 := PM 149) (d := 60) hx hb hml hown hts hNW hK (fun _ h => h) hl.1 hW hT1 e1 (Ev.ok l D eX) (by simp) hgX rfl rfl (law_cw_of (n := 2) [1014, 1015, 1016, 1017, 98] (by decide +kernel)) (by decide) (by decide) (by decide) ⟨by show cells + c1 ≤ 600000; omega, by show slots + n1 ≤ 7302250; omega⟩ (dL okL_26 2 rfl) ?_
  intro ρ3 v3 H3 locs3 hx3 hor3 hW3
  obtain ⟨_, rfl, rfl⟩ := hor3
  refine lv_aload_n hx hb (dL okL_26 3 rfl) rfl (lv_at hl 2 rfl) ?_
  refine law_arg (j := 1) C hi hl hW3.S (by decide) (by decide) (dL okL_26 4 rfl) (dL okL_26 5 rfl) (dL okL_26 6 rfl) (dL okL_26 7 rfl) (dL okL_26 8 rfl) ?_
  refine law_arg (j := 2) C hi hl hW3.S (by decide) (by decide) (dL okL_26 9 rfl) (dL okL_26 10 rfl) (dL okL_26 11 rfl) (dL okL_26 12 rfl) (dL okL_26 13 rfl) ?_
  refine law_callV (as := [.int (xs (i + 1)), .int (xs (i + 2))]) (r := [.int v]) (y2 := PM 268) (d := 60) hx hb hml hown hts hNW hK (fun _ h => h) hl.1 hW3.swap hT2 e2 (Ev.ok l D eM) (by simp) hgM rfl rfl (law_cw_of (n := 2) [1713, 1714, 1715, 1716, 108] (by decide +kernel)) (by simp [Value.category]) (by decide) (by decide) ⟨by show cells + c1 + 0 ≤ 600000; omega, by show slots + n1 + 0 ≤ 7302250; omega⟩ (dL okL_26 14 rfl) ?_
  intro ρ4 v4 H4 locs4 hx4 hor4 hW4
  obtain ⟨_, rfl, rfl⟩ := hor4
  refine lv_icmp_eq (tgt := 1307) hx hb (dL okL_26 15 rfl) (by decide) (fun _ => ?_) (fun hne => absurd rfl hne)
  exact kk H4 locs4 _ _ ⟨ρ3, ρ4, q1, q2, hX', hM', kc - c1, kn - n1, hR', hx3 _ _ e1, hx4 _ _ e2, hW4.swap, hT1.mono hx3, hT2.mono hx4, hl, by show cells + c1 + 0 + (kc - c1) ≤ 600000; omega, by show slots + n1 + 0 + (kn - n1) ≤ 7302250; omega⟩
set_option maxHeartbeats 4000000 in
theorem law_case_32 (C : lw_C p s m meth c D b L xs) (hROk : lw_ROk Rel) (hi : i + 6 ≤ L) (hS : lw_S D s b Rel i ls H locs cells slots) (hp : pairI Rel 150 269 [.int (xs (i + 1)), .int (xs (i + 2)), .int (xs (i + 3))]) (kk : ∀ (H' : Heap) (locs' : List Loc) (cells' slots' : Nat), lw_S D s b Rel i ls H' locs' cells' slots' → W p l e room_1 s m #[Value.ref b] below meth c H' locs' cells' slots' Q (F0 m 1307 ls [])) : W p l e room_1 s m #[Value.ref b] below meth c H locs cells slots Q (F0 m 1038 ls []) := by
  obtain ⟨ρ1, ρ2, q1, q2, hX, hM, kc, kn, hR, e1, e2, hW, hT1, hT2, hl, hkc, hkn⟩ := hS
  obtain ⟨v, hX', hM', c1, n1, eX, eM, hc1, hn1, hR'⟩ := hp hX hM kc kn hR
  obtain ⟨⟨fsX, hgX⟩, fsM, hgM⟩ := hROk hX hM kc kn hR
  obtain ⟨hx, hb, hml, hown, hts, hNW, hK, hXs, hbl, hL⟩ := id C
  refine lv_aload_n hx hb (dL okL_26 18 rfl) rfl (lv_at hl 1 rfl) ?_
  refine law_arg (j := 1) C hi hl hW.S (by decide) (by decide) (dL okL_26 19 rfl) (dL okL_26 20 rfl) (dL okL_26 21 rfl) (dL okL_26 22 rfl) (dL okL_26 23 rfl) ?_
  refine law_arg (j := 2) C hi hl hW.S (by decide) (by decide) (dL okL_26 24 rfl) (dL okL_27 0 rfl) (dL okL_27 1 rfl) (dL okL_27 2 rfl) (dL okL_27 3 rfl) ?_
  refine law_arg (j := 3) C hi hl hW.S (by decide) (by decide) (dL okL_27 4 rfl) (dL okL_27 5 rfl) (dL okL_27 6 rfl) (dL okL_27 7 rfl) (dL okL_27 8 rfl) ?_
  refine law_callV (as := [.int (xs (i + 1)), .int (xs (i + 2)), .int (xs (i + 3))]) (r := []) (y2 := PM 150) (d := 60) hx hb hml hown hts hNW hK (fun _ h => h) hl.1 hW hT1 e1 (Ev.ok l D eX) (by simp) hgX rfl rfl (law_cw_of (n := 3) [1022, 1023, 1024, 1025, 98] (by decide +kernel)) (by decide) (by decide) (by decide) ⟨by show cells + c1 ≤ 600000; omega, by show slots + n1 ≤ 7302250; omega⟩ (dL okL_27 9 rfl) ?_
  intro ρ3 v3 H3 locs3 hx3 hor3 hW3
  obtain ⟨_, rfl, rfl⟩ := hor3
  refine lv_aload_n hx hb (dL okL_27 10 rfl) rfl (lv_at hl 2 rfl) ?_
  refine law_arg (j := 1) C hi hl hW3.S (by decide) (by decide) (dL okL_27 11 rfl) (dL okL_27 12 rfl) (dL okL_27 13 rfl) (dL okL_27 14 rfl) (dL okL_27 15 rfl) ?_
  refine law_arg (j := 2) C hi hl hW3.S (by decide) (by decide) (dL okL_27 16 rfl) (dL okL_27 17 rfl) (dL okL_27 18 rfl) (dL okL_27 19 rfl) (dL okL_27 20 rfl) ?_
  refine law_arg (j := 3) C hi hl hW3.S (by decide) (by decide) (dL okL_27 21 rfl) (dL okL_27 22 rfl) (dL okL_27 23 rfl) (dL okL_27 24 rfl) (dL okL_28 0 rfl) ?_
  refine law_callV (as := [.int (xs (i + 1)), .int (xs (i + 2)), .int (xs (i + 3))]) (r := [.int v]) (y2 := PM 269) (d := 60) hx hb hml hown hts hNW hK (fun _ h => h) hl.1 hW3.swap hT2 e2 (Ev.ok l D eM) (by simp) hgM rfl rfl (law_cw_of (n := 3) [1717, 1718, 1719, 1720, 108] (by decide +kernel)) (by simp [Value.category]) (by decide) (by decide) ⟨by show cells + c1 + 0 ≤ 600000; omega, by show slots + n1 + 0 ≤ 7302250; omega⟩ (dL okL_28 1 rfl) ?_
  intro ρ4 v4 H4 locs4 hx4 hor4 hW4
  obtain ⟨_, rfl, rfl⟩ := hor4
  refine lv_icmp_eq (tgt := 1307) hx hb (dL okL_28 2 rfl) (by decide) (fun _ => ?_) (fun hne => absurd rfl hne)
  exact kk H4 locs4 _ _ ⟨ρ3, ρ4, q1, q2, hX', hM', kc - c1, kn - n1, hR', hx3 _ _ e1, hx4 _ _ e2, hW4.swap, hT1.mono hx3, hT2.mono hx4, hl, by show cells + c1 + 0 + (kc - c1) ≤ 600000; omega, by show slots + n1 + 0 + (kn - n1) ≤ 7302250; omega⟩
set_option maxHeartbeats 4000000 in
theorem law_case_33 (C : lw_C p s m meth c D b L xs) (hROk : lw_ROk Rel) (hi : i + 6 ≤ L) (hS : lw_S D s b Rel i ls H locs cells slots) (hp : pairI Rel 151 271 [.int (xs (i + 1)), .int (xs (i + 2)), .long (((xs (i + 3)).toInt64 <<< ((32 : Int32).toInt64 &&& 63)) ||| ((xs (i + 4)).toInt64 &&& 4294967295))]) (kk : ∀ (H' : Heap) (locs' : List Loc) (cells' slots' : Nat), lw_S D s b Rel i ls H' locs' cells' slots' → W p l e room_1 s m #[Value.ref b] below meth c H' locs' cells' slots' Q (F0 m 1307 ls [])) : W p l e room_1 s m #[Value.ref b] below meth c H locs cells slots Q (F0 m 1081 ls []) := by
  obtain ⟨ρ1, ρ2, q1, q2, hX, hM, kc, kn, hR, e1, e2, hW, hT1, hT2, hl, hkc, hkn⟩ := hS
  obtain ⟨v, hX', hM', c1, n1, eX, eM, hc1, hn1, hR'⟩ := hp hX hM kc kn hR
  obtain ⟨⟨fsX, hgX⟩, fsM, hgM⟩ := hROk hX hM kc kn hR
  obtain ⟨hx, hb, hml, hown, hts, hNW, hK, hXs, hbl, hL⟩ := id C
  refine lv_aload_n hx hb (dL okL_28 5 rfl) rfl (lv_at hl 1 rfl) ?_
  refine law_arg (j := 1) C hi hl hW.S (by decide) (by decide) (dL okL_28 6 rfl) (dL okL_28 7 rfl) (dL okL_28 8 rfl) (dL okL_28 9 rfl) (dL okL_28 10 rfl) ?_
  refine law_arg (j := 2) C hi hl hW.S (by decide) (by decide) (dL okL_28 11 rfl) (dL okL_28 12 rfl) (dL okL_28 13 rfl) (dL okL_28 14 rfl) (dL okL_28 15 rfl) ?_
  refine law_arg (j := 3) C hi hl hW.S (by decide) (by decide) (dL okL_28 16 rfl) (dL okL_28 17 rfl) (dL okL_28 18 rfl) (dL okL_28 19 rfl) (dL okL_28 20 rfl) ?_
  refine lv_i2l hx hb (dL okL_28 21 rfl) rfl ?_
  refine lv_bipush (v := 32) hx hb (dL okL_28 22 rfl) (by decide) ?_
  refine lv_lshl hx hb (dL okL_28 23 rfl) rfl ?_
  refine law_arg (j := 4) C hi hl hW.S (by decide) (by decide) (dL okL_28 24 rfl) (dL okL_29 0 rfl) (dL okL_29 1 rfl) (dL okL_29 2 rfl) (dL okL_29 3 rfl) ?_
  refine lv_i2l hx hb (dL okL_29 4 rfl) rfl ?_
  refine lv_ldc2 (v := 4294967295) hx hb hown (hts _ (mc_wd_in (ps := [1741]) (k := 0) (by decide +kernel))) (dL okL_29 5 rfl) ?_
  refine lv_land hx hb (dL okL_29 6 rfl) ?_
  refine lv_lor hx hb (dL okL_29 7 rfl) ?_
  refine law_callV (as := [.int (xs (i + 1)), .int (xs (i + 2)), .long (((xs (i + 3)).toInt64 <<< ((32 : Int32).toInt64 &&& 63)) ||| ((xs (i + 4)).toInt64 &&& 4294967295))]) (r := []) (y2 := PM 151) (d := 60) hx hb hml hown hts hNW hK (fun _ h => h) hl.1 hW hT1 e1 (Ev.ok l D eX) (by simp) hgX rfl rfl (law_cw_of (n := 3) [1030, 1031, 1032, 1033, 98] (by decide +kernel)) (by decide) (by decide) (by decide) ⟨by show cells + c1 ≤ 600000; omega, by show slots + n1 ≤ 7302250; omega⟩ (dL okL_29 8 rfl) ?_
  intro ρ3 v3 H3 locs3 hx3 hor3 hW3
  obtain ⟨_, rfl, rfl⟩ := hor3
  refine lv_aload_n hx hb (dL okL_29 9 rfl) rfl (lv_at hl 2 rfl) ?_
  refine law_arg (j := 1) C hi hl hW3.S (by decide) (by decide) (dL okL_29 10 rfl) (dL okL_29 11 rfl) (dL okL_29 12 rfl) (dL okL_29 13 rfl) (dL okL_29 14 rfl) ?_
  refine law_arg (j := 2) C hi hl hW3.S (by decide) (by decide) (dL okL_29 15 rfl) (dL okL_29 16 rfl) (dL okL_29 17 rfl) (dL okL_29 18 rfl) (dL okL_29 19 rfl) ?_
  refine law_arg (j := 3) C hi hl hW3.S (by decide) (by decide) (dL okL_29 20 rfl) (dL okL_29 21 rfl) (dL okL_29 22 rfl) (dL okL_29 23 rfl) (dL okL_29 24 rfl) ?_
  refine lv_i2l hx hb (dL okL_30 0 rfl) rfl ?_
  refine lv_bipush (v := 32) hx hb (dL okL_30 1 rfl) (by decide) ?_
  refine lv_lshl hx hb (dL okL_30 2 rfl) rfl ?_
  refine law_arg (j := 4) C hi hl hW3.S (by decide) (by decide) (dL okL_30 3 rfl) (dL okL_30 4 rfl) (dL okL_30 5 rfl) (dL okL_30 6 rfl) (dL okL_30 7 rfl) ?_
  refine lv_i2l hx hb (dL okL_30 8 rfl) rfl ?_
  refine lv_ldc2 (v := 4294967295) hx hb hown (hts _ (mc_wd_in (ps := [1741]) (k := 0) (by decide +kernel))) (dL okL_30 9 rfl) ?_
  refine lv_land hx hb (dL okL_30 10 rfl) ?_
  refine lv_lor hx hb (dL okL_30 11 rfl) ?_
  refine law_callV (as := [.int (xs (i + 1)), .int (xs (i + 2)), .long (((xs (i + 3)).toInt64 <<< ((32 : Int32).toInt64 &&& 63)) ||| ((xs (i + 4)).toInt64 &&& 4294967295))]) (r := [.int v]) (y2 := PM 271) (d := 60) hx hb hml hown hts hNW hK (fun _ h => h) hl.1 hW3.swap hT2 e2 (Ev.ok l D eM) (by simp) hgM rfl rfl (law_cw_of (n := 3) [1721, 1722, 1723, 1724, 108] (by decide +kernel)) (by simp [Value.category]) (by decide) (by decide) ⟨by show cells + c1 + 0 ≤ 600000; omega, by show slots + n1 + 0 ≤ 7302250; omega⟩ (dL okL_30 12 rfl) ?_
  intro ρ4 v4 H4 locs4 hx4 hor4 hW4
  obtain ⟨_, rfl, rfl⟩ := hor4
  refine lv_icmp_eq (tgt := 1307) hx hb (dL okL_30 13 rfl) (by decide) (fun _ => ?_) (fun hne => absurd rfl hne)
  exact kk H4 locs4 _ _ ⟨ρ3, ρ4, q1, q2, hX', hM', kc - c1, kn - n1, hR', hx3 _ _ e1, hx4 _ _ e2, hW4.swap, hT1.mono hx3, hT2.mono hx4, hl, by show cells + c1 + 0 + (kc - c1) ≤ 600000; omega, by show slots + n1 + 0 + (kn - n1) ≤ 7302250; omega⟩
set_option maxHeartbeats 4000000 in
theorem law_case_34 (C : lw_C p s m meth c D b L xs) (hROk : lw_ROk Rel) (hi : i + 6 ≤ L) (hS : lw_S D s b Rel i ls H locs cells slots) (hp : pairL Rel 152 272 [.int (xs (i + 1)), .int (xs (i + 2))]) (kk : ∀ (H' : Heap) (locs' : List Loc) (cells' slots' : Nat), lw_S D s b Rel i ls H' locs' cells' slots' → W p l e room_1 s m #[Value.ref b] below meth c H' locs' cells' slots' Q (F0 m 1307 ls [])) : W p l e room_1 s m #[Value.ref b] below meth c H locs cells slots Q (F0 m 1154 ls []) := by
  obtain ⟨ρ1, ρ2, q1, q2, hX, hM, kc, kn, hR, e1, e2, hW, hT1, hT2, hl, hkc, hkn⟩ := hS
  obtain ⟨v, hX', hM', c1, n1, eX, eM, hc1, hn1, hR'⟩ := hp hX hM kc kn hR
  obtain ⟨⟨fsX, hgX⟩, fsM, hgM⟩ := hROk hX hM kc kn hR
  obtain ⟨hx, hb, hml, hown, hts, hNW, hK, hXs, hbl, hL⟩ := id C
  refine lv_aload_n hx hb (dL okL_30 16 rfl) rfl (lv_at hl 1 rfl) ?_
  refine law_arg (j := 1) C hi hl hW.S (by decide) (by decide) (dL okL_30 17 rfl) (dL okL_30 18 rfl) (dL okL_30 19 rfl) (dL okL_30 20 rfl) (dL okL_30 21 rfl) ?_
  refine law_arg (j := 2) C hi hl hW.S (by decide) (by decide) (dL okL_30 22 rfl) (dL okL_30 23 rfl) (dL okL_30 24 rfl) (dL okL_31 0 rfl) (dL okL_31 1 rfl) ?_
  refine law_callV (as := [.int (xs (i + 1)), .int (xs (i + 2))]) (r := []) (y2 := PM 152) (d := 60) hx hb hml hown hts hNW hK (fun _ h => h) hl.1 hW hT1 e1 (Ev.ok l D eX) (by simp) hgX rfl rfl (law_cw_of (n := 2) [1046, 1047, 1048, 1049, 98] (by decide +kernel)) (by decide) (by decide) (by decide) ⟨by show cells + c1 ≤ 600000; omega, by show slots + n1 ≤ 7302250; omega⟩ (dL okL_31 2 rfl) ?_
  intro ρ3 v3 H3 locs3 hx3 hor3 hW3
  obtain ⟨_, rfl, rfl⟩ := hor3
  refine lv_aload_n hx hb (dL okL_31 3 rfl) rfl (lv_at hl 2 rfl) ?_
  refine law_arg (j := 1) C hi hl hW3.S (by decide) (by decide) (dL okL_31 4 rfl) (dL okL_31 5 rfl) (dL okL_31 6 rfl) (dL okL_31 7 rfl) (dL okL_31 8 rfl) ?_
  refine law_arg (j := 2) C hi hl hW3.S (by decide) (by decide) (dL okL_31 9 rfl) (dL okL_31 10 rfl) (dL okL_31 11 rfl) (dL okL_31 12 rfl) (dL okL_31 13 rfl) ?_
  refine law_callV (as := [.int (xs (i + 1)), .int (xs (i + 2))]) (r := [.long v]) (y2 := PM 272) (d := 60) hx hb hml hown hts hNW hK (fun _ h => h) hl.1 hW3.swap hT2 e2 (Ev.ok l D eM) (by simp) hgM rfl rfl (law_cw_of (n := 2) [1729, 1730, 1731, 1732, 108] (by decide +kernel)) (by simp [Value.category]) (by decide) (by decide) ⟨by show cells + c1 + 0 ≤ 600000; omega, by show slots + n1 + 0 ≤ 7302250; omega⟩ (dL okL_31 14 rfl) ?_
  intro ρ4 v4 H4 locs4 hx4 hor4 hW4
  obtain ⟨_, rfl, rfl⟩ := hor4
  refine W.lcmp hx hb (dL okL_31 15 rfl) ?_
  refine lv_if_eq (tgt := 1307) hx hb (dL okL_31 16 rfl) (by decide) (fun _ => ?_) (fun hne => absurd (law_cmp v) hne)
  exact kk H4 locs4 _ _ ⟨ρ3, ρ4, q1, q2, hX', hM', kc - c1, kn - n1, hR', hx3 _ _ e1, hx4 _ _ e2, hW4.swap, hT1.mono hx3, hT2.mono hx4, hl, by show cells + c1 + 0 + (kc - c1) ≤ 600000; omega, by show slots + n1 + 0 + (kn - n1) ≤ 7302250; omega⟩
set_option maxHeartbeats 4000000 in
theorem law_case_35 (C : lw_C p s m meth c D b L xs) (hROk : lw_ROk Rel) (hi : i + 6 ≤ L) (hS : lw_S D s b Rel i ls H locs cells slots) (hp : pairI Rel 153 273 [.int (xs (i + 1)), .int (xs (i + 2)), .int (xs (i + 3)), .int (xs (i + 4)), .int (xs (i + 5))]) (kk : ∀ (H' : Heap) (locs' : List Loc) (cells' slots' : Nat), lw_S D s b Rel i ls H' locs' cells' slots' → W p l e room_1 s m #[Value.ref b] below meth c H' locs' cells' slots' Q (F0 m 1307 ls [])) : W p l e room_1 s m #[Value.ref b] below meth c H locs cells slots Q (F0 m 1188 ls []) := by
  obtain ⟨ρ1, ρ2, q1, q2, hX, hM, kc, kn, hR, e1, e2, hW, hT1, hT2, hl, hkc, hkn⟩ := hS
  obtain ⟨v, hX', hM', c1, n1, eX, eM, hc1, hn1, hR'⟩ := hp hX hM kc kn hR
  obtain ⟨⟨fsX, hgX⟩, fsM, hgM⟩ := hROk hX hM kc kn hR
  obtain ⟨hx, hb, hml, hown, hts, hNW, hK, hXs, hbl, hL⟩ := id C
  refine lv_aload_n hx hb (dL okL_31 19 rfl) rfl (lv_at hl 1 rfl) ?_
  refine law_arg (j := 1) C hi hl hW.S (by decide) (by decide) (dL okL_31 20 rfl) (dL okL_31 21 rfl) (dL okL_31 22 rfl) (dL okL_31 23 rfl) (dL okL_31 24 rfl) ?_
  refine law_arg (j := 2) C hi hl hW.S (by decide) (by decide) (dL okL_32 0 rfl) (dL okL_32 1 rfl) (dL okL_32 2 rfl) (dL okL_32 3 rfl) (dL okL_32 4 rfl) ?_
  refine law_arg (j := 3) C hi hl hW.S (by decide) (by decide) (dL okL_32 5 rfl) (dL okL_32 6 rfl) (dL okL_32 7 rfl) (dL okL_32 8 rfl) (dL okL_32 9 rfl) ?_
  refine law_arg (j := 4) C hi hl hW.S (by decide) (by decide) (dL okL_32 10 rfl) (dL okL_32 11 rfl) (dL okL_32 12 rfl) (dL okL_32 13 rfl) (dL okL_32 14 rfl) ?_
  refine law_arg (j := 5) C hi hl hW.S (by decide) (by decide) (dL okL_32 15 rfl) (dL okL_32 16 rfl) (dL okL_32 17 rfl) (dL okL_32 18 rfl) (dL okL_32 19 rfl) ?_
  refine law_callV (as := [.int (xs (i + 1)), .int (xs (i + 2)), .int (xs (i + 3)), .int (xs (i + 4)), .int (xs (i + 5))]) (r := []) (y2 := PM 153) (d := 60) hx hb hml hown hts hNW hK (fun _ h => h) hl.1 hW hT1 e1 (Ev.ok l D eX) (by simp) hgX rfl rfl (law_cw_of (n := 5) [1050, 1051, 1052, 1053, 98] (by decide +kernel)) (by decide) (by decide) (by decide) ⟨by show cells + c1 ≤ 600000; omega, by show slots + n1 ≤ 7302250; omega⟩ (dL okL_32 20 rfl) ?_
  intro ρ3 v3 H3 locs3 hx3 hor3 hW3
  obtain ⟨_, rfl, rfl⟩ := hor3
  refine lv_aload_n hx hb (dL okL_32 21 rfl) rfl (lv_at hl 2 rfl) ?_
  refine law_arg (j := 1) C hi hl hW3.S (by decide) (by decide) (dL okL_32 22 rfl) (dL okL_32 23 rfl) (dL okL_32 24 rfl) (dL okL_33 0 rfl) (dL okL_33 1 rfl) ?_
  refine law_arg (j := 2) C hi hl hW3.S (by decide) (by decide) (dL okL_33 2 rfl) (dL okL_33 3 rfl) (dL okL_33 4 rfl) (dL okL_33 5 rfl) (dL okL_33 6 rfl) ?_
  refine law_arg (j := 3) C hi hl hW3.S (by decide) (by decide) (dL okL_33 7 rfl) (dL okL_33 8 rfl) (dL okL_33 9 rfl) (dL okL_33 10 rfl) (dL okL_33 11 rfl) ?_
  refine law_arg (j := 4) C hi hl hW3.S (by decide) (by decide) (dL okL_33 12 rfl) (dL okL_33 13 rfl) (dL okL_33 14 rfl) (dL okL_33 15 rfl) (dL okL_33 16 rfl) ?_
  refine law_arg (j := 5) C hi hl hW3.S (by decide) (by decide) (dL okL_33 17 rfl) (dL okL_33 18 rfl) (dL okL_33 19 rfl) (dL okL_33 20 rfl) (dL okL_33 21 rfl) ?_
  refine law_callV (as := [.int (xs (i + 1)), .int (xs (i + 2)), .int (xs (i + 3)), .int (xs (i + 4)), .int (xs (i + 5))]) (r := [.int v]) (y2 := PM 273) (d := 60) hx hb hml hown hts hNW hK (fun _ h => h) hl.1 hW3.swap hT2 e2 (Ev.ok l D eM) (by simp) hgM rfl rfl (law_cw_of (n := 5) [1733, 1734, 1735, 1736, 108] (by decide +kernel)) (by simp [Value.category]) (by decide) (by decide) ⟨by show cells + c1 + 0 ≤ 600000; omega, by show slots + n1 + 0 ≤ 7302250; omega⟩ (dL okL_33 22 rfl) ?_
  intro ρ4 v4 H4 locs4 hx4 hor4 hW4
  obtain ⟨_, rfl, rfl⟩ := hor4
  refine lv_icmp_eq (tgt := 1307) hx hb (dL okL_33 23 rfl) (by decide) (fun _ => ?_) (fun hne => absurd rfl hne)
  exact kk H4 locs4 _ _ ⟨ρ3, ρ4, q1, q2, hX', hM', kc - c1, kn - n1, hR', hx3 _ _ e1, hx4 _ _ e2, hW4.swap, hT1.mono hx3, hT2.mono hx4, hl, by show cells + c1 + 0 + (kc - c1) ≤ 600000; omega, by show slots + n1 + 0 + (kn - n1) ≤ 7302250; omega⟩
set_option maxHeartbeats 4000000 in
theorem law_case_36 (C : lw_C p s m meth c D b L xs) (hROk : lw_ROk Rel) (hi : i + 6 ≤ L) (hS : lw_S D s b Rel i ls H locs cells slots) (hp : pairI Rel 154 274 [.int (xs (i + 1)), .int (xs (i + 2))]) (kk : ∀ (H' : Heap) (locs' : List Loc) (cells' slots' : Nat), lw_S D s b Rel i ls H' locs' cells' slots' → W p l e room_1 s m #[Value.ref b] below meth c H' locs' cells' slots' Q (F0 m 1307 ls [])) : W p l e room_1 s m #[Value.ref b] below meth c H locs cells slots Q (F0 m 1251 ls []) := by
  obtain ⟨ρ1, ρ2, q1, q2, hX, hM, kc, kn, hR, e1, e2, hW, hT1, hT2, hl, hkc, hkn⟩ := hS
  obtain ⟨v, hX', hM', c1, n1, eX, eM, hc1, hn1, hR'⟩ := hp hX hM kc kn hR
  obtain ⟨⟨fsX, hgX⟩, fsM, hgM⟩ := hROk hX hM kc kn hR
  obtain ⟨hx, hb, hml, hown, hts, hNW, hK, hXs, hbl, hL⟩ := id C
  refine lv_aload_n hx hb (dL okL_34 1 rfl) rfl (lv_at hl 1 rfl) ?_
  refine law_arg (j := 1) C hi hl hW.S (by decide) (by decide) (dL okL_34 2 rfl) (dL okL_34 3 rfl) (dL okL_34 4 rfl) (dL okL_34 5 rfl) (dL okL_34 6 rfl) ?_
  refine law_arg (j := 2) C hi hl hW.S (by decide) (by decide) (dL okL_34 7 rfl) (dL okL_34 8 rfl) (dL okL_34 9 rfl) (dL okL_34 10 rfl) (dL okL_34 11 rfl) ?_
  refine law_callV (as := [.int (xs (i + 1)), .int (xs (i + 2))]) (r := []) (y2 := PM 154) (d := 60) hx hb hml hown hts hNW hK (fun _ h => h) hl.1 hW hT1 e1 (Ev.ok l D eX) (by simp) hgX rfl rfl (law_cw_of (n := 2) [1067, 1068, 1069, 1070, 98] (by decide +kernel)) (by decide) (by decide) (by decide) ⟨by show cells + c1 ≤ 600000; omega, by show slots + n1 ≤ 7302250; omega⟩ (dL okL_34 12 rfl) ?_
  intro ρ3 v3 H3 locs3 hx3 hor3 hW3
  obtain ⟨_, rfl, rfl⟩ := hor3
  refine lv_aload_n hx hb (dL okL_34 13 rfl) rfl (lv_at hl 2 rfl) ?_
  refine law_arg (j := 1) C hi hl hW3.S (by decide) (by decide) (dL okL_34 14 rfl) (dL okL_34 15 rfl) (dL okL_34 16 rfl) (dL okL_34 17 rfl) (dL okL_34 18 rfl) ?_
  refine law_arg (j := 2) C hi hl hW3.S (by decide) (by decide) (dL okL_34 19 rfl) (dL okL_34 20 rfl) (dL okL_34 21 rfl) (dL okL_34 22 rfl) (dL okL_34 23 rfl) ?_
  refine law_callV (as := [.int (xs (i + 1)), .int (xs (i + 2))]) (r := [.int v]) (y2 := PM 274) (d := 60) hx hb hml hown hts hNW hK (fun _ h => h) hl.1 hW3.swap hT2 e2 (Ev.ok l D eM) (by simp) hgM rfl rfl (law_cw_of (n := 2) [1737, 1738, 1739, 1740, 108] (by decide +kernel)) (by simp [Value.category]) (by decide) (by decide) ⟨by show cells + c1 + 0 ≤ 600000; omega, by show slots + n1 + 0 ≤ 7302250; omega⟩ (dL okL_34 24 rfl) ?_
  intro ρ4 v4 H4 locs4 hx4 hor4 hW4
  obtain ⟨_, rfl, rfl⟩ := hor4
  refine lv_icmp_eq (tgt := 1307) hx hb (dL okL_35 0 rfl) (by decide) (fun _ => ?_) (fun hne => absurd rfl hne)
  exact kk H4 locs4 _ _ ⟨ρ3, ρ4, q1, q2, hX', hM', kc - c1, kn - n1, hR', hx3 _ _ e1, hx4 _ _ e2, hW4.swap, hT1.mono hx3, hT2.mono hx4, hl, by show cells + c1 + 0 + (kc - c1) ≤ 600000; omega, by show slots + n1 + 0 + (kn - n1) ≤ 7302250; omega⟩
set_option maxHeartbeats 4000000 in
theorem law_case_37 (C : lw_C p s m meth c D b L xs) (hROk : lw_ROk Rel) (hi : i + 6 ≤ L) (hS : lw_S D s b Rel i ls H locs cells slots) (hp : pairI Rel 155 266 [.int (xs (i + 1))]) (kk : ∀ (H' : Heap) (locs' : List Loc) (cells' slots' : Nat), lw_S D s b Rel i ls H' locs' cells' slots' → W p l e room_1 s m #[Value.ref b] below meth c H' locs' cells' slots' Q (F0 m 1307 ls [])) : W p l e room_1 s m #[Value.ref b] below meth c H locs cells slots Q (F0 m 1284 ls []) := by
  obtain ⟨ρ1, ρ2, q1, q2, hX, hM, kc, kn, hR, e1, e2, hW, hT1, hT2, hl, hkc, hkn⟩ := hS
  obtain ⟨v, hX', hM', c1, n1, eX, eM, hc1, hn1, hR'⟩ := hp hX hM kc kn hR
  obtain ⟨⟨fsX, hgX⟩, fsM, hgM⟩ := hROk hX hM kc kn hR
  obtain ⟨hx, hb, hml, hown, hts, hNW, hK, hXs, hbl, hL⟩ := id C
  refine lv_aload_n hx hb (dL okL_35 3 rfl) rfl (lv_at hl 1 rfl) ?_
  refine law_arg (j := 1) C hi hl hW.S (by decide) (by decide) (dL okL_35 4 rfl) (dL okL_35 5 rfl) (dL okL_35 6 rfl) (dL okL_35 7 rfl) (dL okL_35 8 rfl) ?_
  refine law_callV (as := [.int (xs (i + 1))]) (r := []) (y2 := PM 155) (d := 60) hx hb hml hown hts hNW hK (fun _ h => h) hl.1 hW hT1 e1 (Ev.ok l D eX) (by simp) hgX rfl rfl (law_cw_of (n := 1) [1084, 1085, 1086, 1087, 98] (by decide +kernel)) (by decide) (by decide) (by decide) ⟨by show cells + c1 ≤ 600000; omega, by show slots + n1 ≤ 7302250; omega⟩ (dL okL_35 9 rfl) ?_
  intro ρ3 v3 H3 locs3 hx3 hor3 hW3
  obtain ⟨_, rfl, rfl⟩ := hor3
  refine lv_aload_n hx hb (dL okL_35 10 rfl) rfl (lv_at hl 2 rfl) ?_
  refine law_arg (j := 1) C hi hl hW3.S (by decide) (by decide) (dL okL_35 11 rfl) (dL okL_35 12 rfl) (dL okL_35 13 rfl) (dL okL_35 14 rfl) (dL okL_35 15 rfl) ?_
  refine law_callV (as := [.int (xs (i + 1))]) (r := [.int v]) (y2 := PM 266) (d := 60) hx hb hml hown hts hNW hK (fun _ h => h) hl.1 hW3.swap hT2 e2 (Ev.ok l D eM) (by simp) hgM rfl rfl (law_cw_of (n := 1) [1705, 1706, 1707, 1708, 108] (by decide +kernel)) (by simp [Value.category]) (by decide) (by decide) ⟨by show cells + c1 + 0 ≤ 600000; omega, by show slots + n1 + 0 ≤ 7302250; omega⟩ (dL okL_35 16 rfl) ?_
  intro ρ4 v4 H4 locs4 hx4 hor4 hW4
  obtain ⟨_, rfl, rfl⟩ := hor4
  refine lv_icmp_eq (tgt := 1307) hx hb (dL okL_35 17 rfl) (by decide) (fun _ => ?_) (fun hne => absurd rfl hne)
  exact kk H4 locs4 _ _ ⟨ρ3, ρ4, q1, q2, hX', hM', kc - c1, kn - n1, hR', hx3 _ _ e1, hx4 _ _ e2, hW4.swap, hT1.mono hx3, hT2.mono hx4, hl, by show cells + c1 + 0 + (kc - c1) ≤ 600000; omega, by show slots + n1 + 0 + (kn - n1) ≤ 7302250; omega⟩
end LC
