theorem mc_nfw : nativeFrameWords "java/lang/System" "arraycopy" 5 = 7 := by decide +kernel
section MK
variable {p : Program} {l : Launch} {e : Env} {R : Room} {s : State} {m : MethodId} {args : Array Value} {below : List Frame} {meth : Method} {c : Code} {Q : State → Prop} {D : va_G} {A : Nat → Prop} {y : mc_M} {pc nx a b : Nat} {iv : Int32} {lv : Int64} {sw : List (Int32 × Nat)} {vs : List Value} {L : List (Option Value)} {st : List Value} {h : mc_H} {c0 n0 : Nat} {ρ : Nat → Option Nat} {H : Heap} {locs : List Loc} {ls : Array Slot} {st' : List Value} {alts : List (Bool × mc_S)} {S' : mc_S}
theorem mc_sr_plain {ρ : Nat → Option Nat} : ∀ {v : List Value}, (∀ x ∈ v, ∀ k, x ≠ .ref k) → mc_sr ρ v v
  | [], _ => rfl
  | x :: r, h => ⟨x, r, rfl, by cases x <;> first | rfl | exact absurd rfl (h _ List.mem_cons_self _), mc_sr_plain fun z hz => h z (List.mem_cons_of_mem _ hz)⟩
theorem mc_i_new (C : mc_Cx p s m args meth c D A y) (hat : mc_At D s A y.2.2.1 (pc, L, st, h, c0, n0) ρ H locs ls st') {i0 : Nat} {Cn : String} {Tn : u_T} {Nn : Nat} (hc : vwCl[a]? = some (Cn, Tn, Nn)) (hin : ∀ w ∈ u_ws Cn Tn Nn, w ∈ mc_gw) (ty0 : Nat → FieldType) (hty : ∀ k, k < Nn → parseFieldDescriptor (Tn k).2.2.1 = some (ty0 k)) (hbN : b = Nn) (hw1 : Jvm.Cond.classLink y.1.cls i0 Cn ∈ mc_gw) (hw2 : Jvm.Cond.instantiable Cn Nn ∈ mc_gw) (hw3 : Jvm.Cond.initialized Cn ∈ mc_gw) (hvs : ∀ x ∈ vs, ∀ k, x ≠ .ref k) (hdf : ∀ j, j < Nn → defaultValue (ty0 j) = vp_V vs j) (hR : S'.2.2.2.2.1 ≤ R.cells ∧ S'.2.2.2.2.2 ≤ R.slots) (hd : decode y.2.1 pc = .ok (.new i0, 3)) (hs : mc_stepI (.new i0) (pc + 3) a b iv lv sw vs L st h c0 n0 = some (.inl alts)) (ha : mc_alt alts = some S') (kk : mc_Kn p l e R s m args below meth c Q D A y.2.2.1 ρ S') : W p l e R s m args below meth c H locs c0 n0 Q (F0 m pc ls st') := by
  obtain ⟨hx, hb, hml, hown, hts, hNW, hnm, hK, hA⟩ := C
  obtain ⟨hL, hst, hW, hT⟩ := hat
  dsimp only [mc_stepI] at hs
  simp only [mc_len_eq, mc_app_eq, Nat.zero_add] at hs
  obtain ⟨hle, hs⟩ := mc_ble hs
  obtain rfl := mc_alt0 hs ha
  subst hbN
  obtain ⟨ws, hP, hD, hh, hS⟩ := hW
  exact va_new hx hb hts hin ty0 hty hown (hts _ hw1) (hts _ hw2) (hts _ hw3) hK hP hD hS hA hc hdf hR.1 hR.2 hd
    (fun q H1 hP1 hD1 hS1 => kk (mc_add ρ h.length q) H1 locs ls _ (mc_add.ext hh q) ⟨hL.mono (mc_add.ext hh q), ⟨_, _, rfl, ⟨q, by simp [mc_add], rfl⟩, hst.mono (mc_add.ext hh q)⟩, ⟨_, hP1, hD1, hh.add (Nat.le_trans hle (Nat.le_of_ble_eq_true rfl)) ⟨_, rfl, mc_sr_plain hvs⟩, hS1⟩, hT.mono (mc_add.ext hh q)⟩)
theorem mc_i_newarray_int (C : mc_Cx p s m args meth c D A y) (hat : mc_At D s A y.2.2.1 (pc, L, st, h, c0, n0) ρ H locs ls st') (hw : Jvm.Cond.arrayClass .int ∈ mc_gw) (hR : S'.2.2.2.2.1 ≤ R.cells ∧ S'.2.2.2.2.2 ≤ R.slots) (hd : decode y.2.1 pc = .ok (.newarray .int, 2)) (hs : mc_stepI (.newarray .int) (pc + 2) 0 b iv lv sw vs L st h c0 n0 = some (.inl alts)) (ha : mc_alt alts = some S') (kk : mc_Kn p l e R s m args below meth c Q D A y.2.2.1 ρ S') : W p l e R s m args below meth c H locs c0 n0 Q (F0 m pc ls st') := by
  obtain ⟨hx, hb, hml, hown, hts, hNW, hnm, hK, hA⟩ := C
  obtain ⟨hL, hst, hW, hT⟩ := hat
  dsimp only [mc_stepI] at hs
  split at hs
  · rename_i mm r
    simp only [mc_len_eq, mc_app_eq, Nat.zero_add] at hs
    obtain ⟨hle, hs⟩ := mc_ble hs
    obtain ⟨hz, rfl⟩ := mc_alt1 hs ha
    have hz := of_decide_eq_true hz
    obtain ⟨_, _, rfl, rfl, hr⟩ := hst
    obtain ⟨ws, hP, hD, hh, hS⟩ := hW
    refine va_newa (atype := .int) (ty := .int) (a0 := (mm.toNatClampNeg, .inl (fun _ => 0))) (N' := mm.toNatClampNeg) hx hb (hts _ hw) rfl hK hP hD hS hA (fun cA => by rw [vp_cell_i]; rfl) hz.1 rfl (by show _ * 4 ≤ _; have := hz.2; omega) hR.1 hR.2 hd ?_
    intro q cA H1 hK1 hP1 hD1 hS1
    obtain ⟨g1, g2⟩ := hK1.2 0 (cA, .int) rfl
    exact kk (mc_add ρ h.length q) H1 locs ls _ (mc_add.ext hh q) ⟨hL.mono (mc_add.ext hh q), ⟨_, _, rfl, ⟨q, by simp [mc_add], rfl⟩, hr.mono (mc_add.ext hh q)⟩, ⟨_, hP1, hD1, hh.add (Nat.le_trans hle (Nat.le_of_ble_eq_true rfl)) ⟨cA, _, rfl, g1, g2, (fun q => by cases q), fun _ => rfl⟩, hS1⟩, hT.mono (mc_add.ext hh q)⟩
  · cases hs
theorem mc_i_newarray_byte (C : mc_Cx p s m args meth c D A y) (hat : mc_At D s A y.2.2.1 (pc, L, st, h, c0, n0) ρ H locs ls st') (hw : Jvm.Cond.arrayClass .byte ∈ mc_gw) (hR : S'.2.2.2.2.1 ≤ R.cells ∧ S'.2.2.2.2.2 ≤ R.slots) (hd : decode y.2.1 pc = .ok (.newarray .byte, 2)) (hs : mc_stepI (.newarray .byte) (pc + 2) 2 b iv lv sw vs L st h c0 n0 = some (.inl alts)) (ha : mc_alt alts = some S') (kk : mc_Kn p l e R s m args below meth c Q D A y.2.2.1 ρ S') : W p l e R s m args below meth c H locs c0 n0 Q (F0 m pc ls st') := by
  obtain ⟨hx, hb, hml, hown, hts, hNW, hnm, hK, hA⟩ := C
  obtain ⟨hL, hst, hW, hT⟩ := hat
  dsimp only [mc_stepI] at hs
  split at hs
  · rename_i mm r
    simp only [mc_len_eq, mc_app_eq, Nat.zero_add] at hs
    obtain ⟨hle, hs⟩ := mc_ble hs
    obtain ⟨hz, rfl⟩ := mc_alt1 hs ha
    have hz := of_decide_eq_true hz
    obtain ⟨_, _, rfl, rfl, hr⟩ := hst
    obtain ⟨ws, hP, hD, hh, hS⟩ := hW
    refine va_newa (atype := .byte) (ty := .byte) (a0 := (mm.toNatClampNeg, .inl (fun _ => 0))) (N' := mm.toNatClampNeg) hx hb (hts _ hw) rfl hK hP hD hS hA (fun cA => by rw [vp_cell_i]; rfl) hz.1 rfl (by show _ * 1 ≤ _; have := hz.2; omega) hR.1 hR.2 hd ?_
    intro q cA H1 hK1 hP1 hD1 hS1
    obtain ⟨g1, g2⟩ := hK1.2 0 (cA, .byte) rfl
    exact kk (mc_add ρ h.length q) H1 locs ls _ (mc_add.ext hh q) ⟨hL.mono (mc_add.ext hh q), ⟨_, _, rfl, ⟨q, by simp [mc_add], rfl⟩, hr.mono (mc_add.ext hh q)⟩, ⟨_, hP1, hD1, hh.add (Nat.le_trans hle (Nat.le_of_ble_eq_true rfl)) ⟨cA, _, rfl, g1, g2, (fun q => by cases q), fun _ => rfl⟩, hS1⟩, hT.mono (mc_add.ext hh q)⟩
  · cases hs
theorem mc_i_newarray_short (C : mc_Cx p s m args meth c D A y) (hat : mc_At D s A y.2.2.1 (pc, L, st, h, c0, n0) ρ H locs ls st') (hw : Jvm.Cond.arrayClass .short ∈ mc_gw) (hR : S'.2.2.2.2.1 ≤ R.cells ∧ S'.2.2.2.2.2 ≤ R.slots) (hd : decode y.2.1 pc = .ok (.newarray .short, 2)) (hs : mc_stepI (.newarray .short) (pc + 2) 3 b iv lv sw vs L st h c0 n0 = some (.inl alts)) (ha : mc_alt alts = some S') (kk : mc_Kn p l e R s m args below meth c Q D A y.2.2.1 ρ S') : W p l e R s m args below meth c H locs c0 n0 Q (F0 m pc ls st') := by
  obtain ⟨hx, hb, hml, hown, hts, hNW, hnm, hK, hA⟩ := C
  obtain ⟨hL, hst, hW, hT⟩ := hat
  dsimp only [mc_stepI] at hs
  split at hs
  · rename_i mm r
    simp only [mc_len_eq, mc_app_eq, Nat.zero_add] at hs
    obtain ⟨hle, hs⟩ := mc_ble hs
    obtain ⟨hz, rfl⟩ := mc_alt1 hs ha
    have hz := of_decide_eq_true hz
    obtain ⟨_, _, rfl, rfl, hr⟩ := hst
    obtain ⟨ws, hP, hD, hh, hS⟩ := hW
    refine va_newa (atype := .short) (ty := .short) (a0 := (mm.toNatClampNeg, .inl (fun _ => 0))) (N' := mm.toNatClampNeg) hx hb (hts _ hw) rfl hK hP hD hS hA (fun cA => by rw [vp_cell_i]; rfl) hz.1 rfl (by show _ * 2 ≤ _; have := hz.2; omega) hR.1 hR.2 hd ?_
    intro q cA H1 hK1 hP1 hD1 hS1
    obtain ⟨g1, g2⟩ := hK1.2 0 (cA, .short) rfl
    exact kk (mc_add ρ h.length q) H1 locs ls _ (mc_add.ext hh q) ⟨hL.mono (mc_add.ext hh q), ⟨_, _, rfl, ⟨q, by simp [mc_add], rfl⟩, hr.mono (mc_add.ext hh q)⟩, ⟨_, hP1, hD1, hh.add (Nat.le_trans hle (Nat.le_of_ble_eq_true rfl)) ⟨cA, _, rfl, g1, g2, (fun q => by cases q), fun _ => rfl⟩, hS1⟩, hT.mono (mc_add.ext hh q)⟩
  · cases hs
theorem mc_i_newarray_long (C : mc_Cx p s m args meth c D A y) (hat : mc_At D s A y.2.2.1 (pc, L, st, h, c0, n0) ρ H locs ls st') (hw : Jvm.Cond.arrayClass .long ∈ mc_gw) (hR : S'.2.2.2.2.1 ≤ R.cells ∧ S'.2.2.2.2.2 ≤ R.slots) (hd : decode y.2.1 pc = .ok (.newarray .long, 2)) (hs : mc_stepI (.newarray .long) (pc + 2) 1 b iv lv sw vs L st h c0 n0 = some (.inl alts)) (ha : mc_alt alts = some S') (kk : mc_Kn p l e R s m args below meth c Q D A y.2.2.1 ρ S') : W p l e R s m args below meth c H locs c0 n0 Q (F0 m pc ls st') := by
  obtain ⟨hx, hb, hml, hown, hts, hNW, hnm, hK, hA⟩ := C
  obtain ⟨hL, hst, hW, hT⟩ := hat
  dsimp only [mc_stepI] at hs
  split at hs
  · rename_i mm r
    simp only [mc_len_eq, mc_app_eq, Nat.zero_add] at hs
    obtain ⟨hle, hs⟩ := mc_ble hs
    obtain ⟨hz, rfl⟩ := mc_alt1 hs ha
    have hz := of_decide_eq_true hz
    obtain ⟨_, _, rfl, rfl, hr⟩ := hst
    obtain ⟨ws, hP, hD, hh, hS⟩ := hW
    refine va_newa (atype := .long) (ty := .long) (a0 := (mm.toNatClampNeg, .inr (.inl (fun _ => 0)))) (N' := mm.toNatClampNeg) hx hb (hts _ hw) rfl hK hP hD hS hA (fun cA => by rw [vp_cell_l]; rfl) hz.1 rfl (by show _ * 8 ≤ _; have := hz.2; omega) hR.1 hR.2 hd ?_
    intro q cA H1 hK1 hP1 hD1 hS1
    obtain ⟨g1, g2⟩ := hK1.2 0 (cA, .long) rfl
    exact kk (mc_add ρ h.length q) H1 locs ls _ (mc_add.ext hh q) ⟨hL.mono (mc_add.ext hh q), ⟨_, _, rfl, ⟨q, by simp [mc_add], rfl⟩, hr.mono (mc_add.ext hh q)⟩, ⟨_, hP1, hD1, hh.add (Nat.le_trans hle (Nat.le_of_ble_eq_true rfl)) ⟨cA, _, rfl, g1, g2, (fun q => by cases q), fun _ => rfl⟩, hS1⟩, hT.mono (mc_add.ext hh q)⟩
  · cases hs
theorem mc_i_objInit (C : mc_Cx p s m args meth c D A y) (hat : mc_At D s A y.2.2.1 (pc, L, st, h, c0, n0) ρ H locs ls st') {i0 : Nat} (hb0 : b = 0) (hw1 : Jvm.Cond.methodLink y.1.cls i0 Lib.objectInit ∈ mc_gw) (hw2 : Jvm.Cond.instanceMethod Lib.objectInit ∈ mc_gw) (hw3 : Jvm.Cond.code Lib.objectInit ⟨#[0xb1]⟩ 1 none ∈ mc_gw) (hRf : 1 ≤ R.frames) (hRl : 40 ≤ R.locals) (hd : decode y.2.1 pc = .ok (.invokespecial i0, 3)) (hs : mc_stepI (.invokespecial i0) (pc + 3) a b iv lv sw vs L st h c0 n0 = some (.inl alts)) (ha : mc_alt alts = some S') (kk : mc_Kn p l e R s m args below meth c Q D A y.2.2.1 ρ S') : W p l e R s m args below meth c H locs c0 n0 Q (F0 m pc ls st') := by
  obtain ⟨hx, hb, hml, hown, hts, hNW, hnm, hK, hA⟩ := C
  obtain ⟨hL, hst, hW, hT⟩ := hat
  dsimp only [mc_stepI] at hs
  subst hb0
  have hs : (match st with
    | .ref _ :: r => bif Nat.ble (mc_w r) 8 then mc_go (pc + 3, L, r, h, c0, n0) else none
    | _ => none) = some (.inl alts) := hs
  split at hs
  · rename_i i r
    obtain ⟨hle, hs⟩ := mc_ble hs
    obtain rfl := mc_alt0 hs ha
    obtain ⟨_, _, rfl, ⟨q, hq, rfl⟩, hr⟩ := hst
    refine W.objInit hx hb hown (hts _ hw1) (hts _ hw2) (hts _ hw3) rfl (by rw [hml]; exact hL.1) rfl hd hRf ?_ (kk ρ H locs ls _ mc_ext.rf ⟨hL, hr, hW, hT⟩)
    rw [hr.w]
    show 2 * 0 + _ + 12 ≤ _
    omega
  · cases hs
theorem mc_sw_alt {x : Int32} {L : List (Option Value)} {st : List Value} {h : mc_H} {c n d : Nat} {S' : mc_S} : ∀ {sw : List (Int32 × Nat)}, mc_alt (mc_sw x L st h c n d sw) = some S' → (∃ (j : Nat) (t : Nat), sw[j]? = some (x, t) ∧ S' = (t, L, st, h, c, n)) ∨ ((∀ (j : Nat) (v : Int32) (t : Nat), sw[j]? = some (v, t) → x ≠ v) ∧ S' = (d, L, st, h, c, n))
  | [], ha => by
    simp only [mc_sw, mc_alt, cond_true, Option.some.injEq] at ha
    exact Or.inr ⟨fun j v t hj => by simp at hj, ha.symm⟩
  | (v, t) :: r, ha => by
    simp only [mc_sw, mc_alt] at ha
    by_cases hv : x = v
    · subst hv
      simp only [decide_true, cond_true, Option.some.injEq] at ha
      exact Or.inl ⟨0, t, rfl, ha.symm⟩
    · simp only [hv, decide_false, cond_false] at ha
      rcases mc_sw_alt ha with ⟨j, t', h1, h2⟩ | ⟨h1, h2⟩
      · exact Or.inl ⟨j + 1, t', by simpa using h1, h2⟩
      · refine Or.inr ⟨fun j v' t' hj => ?_, h2⟩
        cases j with
        | zero =>
          simp at hj
          rw [← hj.1]
          exact hv
        | succ j => exact h1 j v' t' (by simpa using hj)
theorem mc_i_tableswitch (C : mc_Cx p s m args meth c D A y) (hat : mc_At D s A y.2.2.1 (pc, L, st, h, c0, n0) ρ H locs ls st') {df lo hi : Int} {offs : Array Int} {len : Nat} (hdf : (pc : Int) + df = (b : Int)) (hsz : hi = lo + (offs.size : Int) - 1) (hlen : sw.length = offs.size) (hsw : ∀ (j : Nat) (v : Int32) (t : Nat), sw[j]? = some (v, t) → v.toInt = lo + (j : Int) ∧ ∃ o, offs[j]? = some o ∧ (pc : Int) + o = (t : Int)) (hd : decode y.2.1 pc = .ok (.tableswitch df lo hi offs, len)) (hs : mc_stepI (.tableswitch df lo hi offs) nx a b iv lv sw vs L st h c0 n0 = some (.inl alts)) (ha : mc_alt alts = some S') (kk : mc_Kn p l e R s m args below meth c Q D A y.2.2.1 ρ S') : W p l e R s m args below meth c H locs c0 n0 Q (F0 m pc ls st') := by
  obtain ⟨hx, hb, hml, hown, hts, hNW, hnm, hK, hA⟩ := C
  obtain ⟨hL, hst, hW, hT⟩ := hat
  dsimp only [mc_stepI] at hs
  split at hs
  · rename_i x r
    obtain ⟨_, _, rfl, rfl, hr⟩ := hst
    simp only [Option.some.injEq, Sum.inl.injEq] at hs
    subst hs
    rcases mc_sw_alt ha with ⟨j, t, h1, rfl⟩ | ⟨h1, rfl⟩
    · obtain ⟨g1, o, g2, g3⟩ := hsw j x t h1
      have hj : j < offs.size := (Array.getElem?_eq_some_iff.mp g2).1
      exact lv_tableIn hx hb hd (by omega) (by omega) (by rw [g1, show (lo + (j : Int) - lo).toNat = j by omega]; exact g2) g3 (kk ρ H locs ls _ mc_ext.rf ⟨hL, hr, hW, hT⟩)
    · refine lv_tableOut hx hb hd ?_ hdf (kk ρ H locs ls _ mc_ext.rf ⟨hL, hr, hW, hT⟩)
      by_cases q1 : x.toInt < lo
      · exact Or.inl q1
      · by_cases q2 : hi < x.toInt
        · exact Or.inr q2
        · exfalso
          have hj : (x.toInt - lo).toNat < sw.length := by omega
          have hj2 : sw[(x.toInt - lo).toNat]? = some (sw[(x.toInt - lo).toNat].1, sw[(x.toInt - lo).toNat].2) := List.getElem?_eq_getElem hj
          have g1 := (hsw _ _ _ hj2).1
          refine h1 _ _ _ hj2 (Int32.toInt_inj.mp ?_)
          rw [g1]
          omega
  · cases hs
theorem mc_i_lookupswitch (C : mc_Cx p s m args meth c D A y) (hat : mc_At D s A y.2.2.1 (pc, L, st, h, c0, n0) ρ H locs ls st') {df : Int} {prs : Array (Int × Int)} {len : Nat} (hdf : (pc : Int) + df = (b : Int)) (hp : (prs.toList.zip (prs.toList.drop 1)).all (fun (a, next) => a.1 < next.1) = true) (hsw : ∀ x : Int32, (∀ (j t : Nat), sw[j]? = some (x, t) → ∃ off, Op.lookupswitch.offset prs.toList df x.toInt = off ∧ (pc : Int) + off = (t : Int)) ∧ ((∀ (j : Nat) (v : Int32) (t : Nat), sw[j]? = some (v, t) → x ≠ v) → Op.lookupswitch.offset prs.toList df x.toInt = df)) (hd : decode y.2.1 pc = .ok (.lookupswitch df prs, len)) (hs : mc_stepI (.lookupswitch df prs) nx a b iv lv sw vs L st h c0 n0 = some (.inl alts)) (ha : mc_alt alts = some S') (kk : mc_Kn p l e R s m args below meth c Q D A y.2.2.1 ρ S') : W p l e R s m args below meth c H locs c0 n0 Q (F0 m pc ls st') := by
  obtain ⟨hx, hb, hml, hown, hts, hNW, hnm, hK, hA⟩ := C
  obtain ⟨hL, hst, hW, hT⟩ := hat
  dsimp only [mc_stepI] at hs
  split at hs
  · rename_i x r
    obtain ⟨_, _, rfl, rfl, hr⟩ := hst
    simp only [Option.some.injEq, Sum.inl.injEq] at hs
    subst hs
    rcases mc_sw_alt ha with ⟨j, t, h1, rfl⟩ | ⟨h1, rfl⟩
    · obtain ⟨off, g1, g2⟩ := (hsw x).1 j t h1
      exact lv_lookup hx hb hd hp g1 g2 (kk ρ H locs ls _ mc_ext.rf ⟨hL, hr, hW, hT⟩)
    · exact lv_lookup hx hb hd hp ((hsw x).2 h1) hdf (kk ρ H locs ls _ mc_ext.rf ⟨hL, hr, hW, hT⟩)
  · cases hs
theorem mc_i_arraycopy (C : mc_Cx p s m args meth c D A y) (hat : mc_At D s A y.2.2.1 (pc, L, st, h, c0, n0) ρ H locs ls st') {i0 : Nat} (ha0 : a = 100001) (hw1 : Jvm.Cond.methodLink y.1.cls i0 arraycopyName ∈ mc_gw) (hw2 : Jvm.Cond.native arraycopyName ∈ mc_gw) (hw3 : Jvm.Cond.static arraycopyName ∈ mc_gw) (hw4 : Jvm.Cond.initialized "java/lang/System" ∈ mc_gw) (hRf : 1 ≤ R.frames) (hRl : 40 ≤ R.locals) (hd : decode y.2.1 pc = .ok (.invokestatic i0, 3)) (hs : mc_stepI (.invokestatic i0) (pc + 3) a b iv lv sw vs L st h c0 n0 = some (.inl alts)) (ha : mc_alt alts = some S') (kk : mc_Kn p l e R s m args below meth c Q D A y.2.2.1 ρ S') : W p l e R s m args below meth c H locs c0 n0 Q (F0 m pc ls st') := by
  obtain ⟨hx, hb, hml, hown, hts, hNW, hnm, hK, hA⟩ := C
  obtain ⟨hL, hst, hW, hT⟩ := hat
  dsimp only [mc_stepI] at hs
  subst ha0
  rw [show Nat.beq 100001 100001 = true from rfl, cond_true] at hs
  split at hs
  · split at hs
    · rename_i n0' f n1' g hg0 hg1
      simp only [mc_set_eq] at hs
      obtain ⟨hz, rfl⟩ := mc_alt1 hs ha
      obtain ⟨hz1, hz2⟩ := (Bool.and_eq_true _ _).mp hz
      obtain ⟨z1, z2, z3, z4, z5⟩ := of_decide_eq_true hz1
      have hz2 := Nat.le_of_ble_eq_true hz2
      obtain ⟨_, _, rfl, rfl, _, _, rfl, rfl, _, _, rfl, ⟨qd, hqd, rfl⟩, _, _, rfl, rfl, _, _, rfl, ⟨qe, hqe, rfl⟩, hr⟩ := hst
      obtain ⟨ws, hP, hD, hh, hS⟩ := hW
      obtain ⟨q1, e1, hw1', hq1, cA1, x1, rfl, a1, a2, -, a5⟩ := hh.2.2.1 _ _ (by rw [← mc_get_eq]; exact hg0)
      obtain ⟨q2, e2, hw2', hq2, cA2, x2, rfl, b1, b2, -, b5⟩ := hh.2.2.1 _ _ (by rw [← mc_get_eq]; exact hg1)
      cases hqe.symm.trans hq1
      cases hqd.symm.trans hq2
      cases a5 (by decide)
      cases b5 (by decide)
      exact va_copyi (ty := .int) hx hb (by rw [hml]; exact hL.1.symm) hown (hts _ hw1) (hts _ hw2) (hts _ hw3) (hts _ hw4) (mc_K2 hK a1 a2 b1 b2) hP hD hS _ _ 0 1 hw1' hw2' rfl rfl rfl z1 z2 z3 z4 z5 (fun _ _ => rfl) hRf (by rw [hr.w, mc_nfw]; omega) hd (fun H1 locs1 hP1 hD1 hS1 => kk ρ H1 locs1 ls _ mc_ext.rf ⟨hL, hr, ⟨_, hP1, hD1, hh.set hqd ⟨cA2, _, rfl, b1, b2, (fun q => by cases q), fun _ => rfl⟩, hS1⟩, hT⟩)
    · rename_i n0' f n1' g hg0 hg1
      simp only [mc_set_eq] at hs
      obtain ⟨hz, rfl⟩ := mc_alt1 hs ha
      obtain ⟨hz1, hz2⟩ := (Bool.and_eq_true _ _).mp hz
      obtain ⟨z1, z2, z3, z4, z5⟩ := of_decide_eq_true hz1
      have hz2 := Nat.le_of_ble_eq_true hz2
      obtain ⟨_, _, rfl, rfl, _, _, rfl, rfl, _, _, rfl, ⟨qd, hqd, rfl⟩, _, _, rfl, rfl, _, _, rfl, ⟨qe, hqe, rfl⟩, hr⟩ := hst
      obtain ⟨ws, hP, hD, hh, hS⟩ := hW
      obtain ⟨q1, e1, hw1', hq1, cA1, x1, rfl, a1, a2, -, a5⟩ := hh.2.2.1 _ _ (by rw [← mc_get_eq]; exact hg0)
      obtain ⟨q2, e2, hw2', hq2, cA2, x2, rfl, b1, b2, -, b5⟩ := hh.2.2.1 _ _ (by rw [← mc_get_eq]; exact hg1)
      cases hqe.symm.trans hq1
      cases hqd.symm.trans hq2
      cases a5 (by decide)
      cases b5 (by decide)
      exact va_copyl (ty := .long) hx hb (by rw [hml]; exact hL.1.symm) hown (hts _ hw1) (hts _ hw2) (hts _ hw3) (hts _ hw4) (mc_K2 hK a1 a2 b1 b2) hP hD hS _ _ 0 1 hw1' hw2' rfl rfl rfl z1 z2 z3 z4 z5 (fun _ _ => rfl) hRf (by rw [hr.w, mc_nfw]; omega) hd (fun H1 locs1 hP1 hD1 hS1 => kk ρ H1 locs1 ls _ mc_ext.rf ⟨hL, hr, ⟨_, hP1, hD1, hh.set hqd ⟨cA2, _, rfl, b1, b2, (fun q => by cases q), fun _ => rfl⟩, hS1⟩, hT⟩)
    · cases hs
  · cases hs
end MK
