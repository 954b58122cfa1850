theorem mc_alt0 {S S' : mc_S} {alts : List (Bool × mc_S)} (hs : mc_go S = some (.inl alts)) (ha : mc_alt alts = some S') : S' = S := by
  simp only [mc_go, Option.some.injEq, Sum.inl.injEq] at hs
  subst hs
  simp only [mc_alt, cond_true, Option.some.injEq] at ha
  exact ha.symm
theorem mc_alt1 {b : Bool} {S S' : mc_S} {alts : List (Bool × mc_S)} (hs : mc_ck b S = some (.inl alts)) (ha : mc_alt alts = some S') : b = true ∧ S' = S := by
  simp only [mc_ck, Option.some.injEq, Sum.inl.injEq] at hs
  subst hs
  cases b
  · simp [mc_alt] at ha
  · simp only [mc_alt, cond_true, Option.some.injEq] at ha
    exact ⟨rfl, ha.symm⟩
theorem mc_alt2 {b : Bool} {S1 S2 S' : mc_S} {alts : List (Bool × mc_S)} (hs : mc_br b S1 S2 = some (.inl alts)) (ha : mc_alt alts = some S') : (b = true ∧ S' = S1) ∨ (b = false ∧ S' = S2) := by
  simp only [mc_br, Option.some.injEq, Sum.inl.injEq] at hs
  subst hs
  cases b
  · simp only [mc_alt, cond_true, cond_false, Option.some.injEq] at ha
    exact Or.inr ⟨rfl, ha.symm⟩
  · simp only [mc_alt, cond_true, Option.some.injEq] at ha
    exact Or.inl ⟨rfl, ha.symm⟩
/-- all that the locals hold -/
def mc_lst (ls : Array Slot) : List (Nat × Value) := (List.range ls.size).filterMap (fun (i : Nat) => match (ls[i]? : Option Slot) with
  | some (.val w) => some (i, w)
  | _ => none)
theorem mc_lst_has {ls : Array Slot} {nL : Nat} (hs : ls.size = nL) (hw : lv_wf ls) : lv_has ls nL (mc_lst ls) := by
  refine ⟨hs, hw, fun q hq => ?_⟩
  obtain ⟨i, -, hi⟩ := List.mem_filterMap.mp hq
  split at hi
  · cases hi
    assumption
  · cases hi
theorem mc_lst_in {ls : Array Slot} {i : Nat} {w : Value} (h : ls[i]? = some (.val w)) : (i, w) ∈ mc_lst ls :=
  List.mem_filterMap.mpr ⟨i, List.mem_range.mpr (Array.getElem?_eq_some_iff.mp h).1, by rw [h]⟩
theorem mc_nl_cat {L : List (Option Value)} {i j : Nat} {v : Value} (h : mc_nl L i = true) (hj : j + 1 = i) (hv : L[j]? = some (some v)) : v.category = 1 := by
  subst hj
  simp only [mc_nl, mc_get_eq, hv] at h
  cases v <;> first | rfl | (simp at h; done)
theorem mc_L.store1 {ρ : Nat → Option Nat} {nL i : Nat} {L : List (Option Value)} {ls ls' : Array Slot} {v w : Value} (hL : mc_L ρ nL L ls) (hn : mc_nl L i = true) (hvr : mc_vr ρ v w)
    (h' : lv_has ls' nL ((i, w) :: (mc_lst ls).filter (fun q => !(q.1 == i) && !(q.1 + 1 == i && q.2.category == 2)))) : mc_L ρ nL (L.set i (some v)) ls' := by
  refine ⟨h'.1, h'.2.1, fun j u hu => ?_⟩
  by_cases hij : i = j
  · subst hij
    have hl : i < L.length := by
      have := (List.getElem?_eq_some_iff.mp hu).1
      simpa using this
    rw [List.getElem?_set_self hl] at hu
    cases hu
    exact ⟨w, hvr, h'.2.2 (i, w) List.mem_cons_self⟩
  · rw [List.getElem?_set_ne hij] at hu
    obtain ⟨z, h1, h2⟩ := hL.2.2 j u hu
    refine ⟨z, h1, h'.2.2 (j, z) (List.mem_cons_of_mem _ (List.mem_filter.mpr ⟨mc_lst_in h2, ?_⟩))⟩
    have h3 : ¬ j = i := fun q => hij q.symm
    by_cases h4 : j + 1 = i
    · have h5 := mc_nl_cat hn h4 hu
      have h6 := h1.cat
      simp [h3, h4, h6, h5]
    · simp [h3, h4]
theorem mc_L.store2 {ρ : Nat → Option Nat} {nL i : Nat} {L : List (Option Value)} {ls ls' : Array Slot} {v w : Value} (hL : mc_L ρ nL L ls) (hn : mc_nl L i = true) (hvr : mc_vr ρ v w)
    (h' : lv_has ls' nL ((i, w) :: (mc_lst ls).filter (fun q => !(q.1 == i) && (!(q.1 == i + 1) && !(q.1 + 1 == i && q.2.category == 2))))) : mc_L ρ nL ((L.set i (some v)).set (i + 1) none) ls' := by
  refine ⟨h'.1, h'.2.1, fun j u hu => ?_⟩
  by_cases hj1 : i + 1 = j
  · subst hj1
    have hl : i + 1 < (L.set i (some v)).length := by
      have := (List.getElem?_eq_some_iff.mp hu).1
      simpa using this
    rw [List.getElem?_set_self hl] at hu
    cases hu
  · rw [List.getElem?_set_ne hj1] at hu
    by_cases hij : i = j
    · subst hij
      have hl : i < L.length := by
        have := (List.getElem?_eq_some_iff.mp hu).1
        simpa using this
      rw [List.getElem?_set_self hl] at hu
      cases hu
      exact ⟨w, hvr, h'.2.2 (i, w) List.mem_cons_self⟩
    · rw [List.getElem?_set_ne hij] at hu
      obtain ⟨z, h1, h2⟩ := hL.2.2 j u hu
      refine ⟨z, h1, h'.2.2 (j, z) (List.mem_cons_of_mem _ (List.mem_filter.mpr ⟨mc_lst_in h2, ?_⟩))⟩
      have h3 : ¬ j = i := fun q => hij q.symm
      have h3' : ¬ j = i + 1 := fun q => hj1 q.symm
      by_cases h4 : j + 1 = i
      · have h5 := mc_nl_cat hn h4 hu
        have h6 := h1.cat
        simp [h3, h3', h4, h6, h5]
      · simp [h3, h3', h4]
section MI
variable {p : Program} {l : Launch} {e : Env} {R : Room} {s : State} {m : MethodId} {args : Array Value} {below : List Frame} {meth : Method} {c : Code} {Q : State → Prop} {D : va_G} {A : Nat → Prop} {y : mc_M} {pc nx a b : Nat} {iv : Int32} {lv : Int64} {sw : List (Int32 × Nat)} {vs : List Value} {L : List (Option Value)} {st : List Value} {h : mc_H} {c0 n0 : Nat} {ρ : Nat → Option Nat} {H : Heap} {locs : List Loc} {ls : Array Slot} {st' : List Value} {alts : List (Bool × mc_S)} {S' : mc_S}
theorem mc_i_iconst (C : mc_Cx p s m args meth c D A y) (hat : mc_At D s A y.2.2.1 (pc, L, st, h, c0, n0) ρ H locs ls st') {i : Int} (hv : Int32.ofInt i = iv) (hd : decode y.2.1 pc = .ok (.iconst i, 1)) (hs : mc_stepI (.iconst i) (pc + 1) a b iv lv sw vs L st h c0 n0 = some (.inl alts)) (ha : mc_alt alts = some S') (kk : mc_Kn p l e R s m args below meth c Q D A y.2.2.1 ρ S') : W p l e R s m args below meth c H locs c0 n0 Q (F0 m pc ls st') := by
  obtain ⟨hx, hb, hml, hown, hts, hNW, hnm, hK, hA⟩ := C
  obtain ⟨hL, hst, hW, hT⟩ := hat
  dsimp only [mc_stepI] at hs
  obtain rfl := mc_alt0 hs ha
  exact lv_iconst hx hb hd hv (kk ρ H locs ls _ mc_ext.rf ⟨hL, ⟨_, _, rfl, rfl, hst⟩, hW, hT⟩)
theorem mc_i_bipush (C : mc_Cx p s m args meth c D A y) (hat : mc_At D s A y.2.2.1 (pc, L, st, h, c0, n0) ρ H locs ls st') {i : Int} (hv : (Int8.ofInt i).toInt32 = iv) (hd : decode y.2.1 pc = .ok (.bipush i, 2)) (hs : mc_stepI (.bipush i) (pc + 2) a b iv lv sw vs L st h c0 n0 = some (.inl alts)) (ha : mc_alt alts = some S') (kk : mc_Kn p l e R s m args below meth c Q D A y.2.2.1 ρ S') : W p l e R s m args below meth c H locs c0 n0 Q (F0 m pc ls st') := by
  obtain ⟨hx, hb, hml, hown, hts, hNW, hnm, hK, hA⟩ := C
  obtain ⟨hL, hst, hW, hT⟩ := hat
  dsimp only [mc_stepI] at hs
  obtain rfl := mc_alt0 hs ha
  exact lv_bipush hx hb hd hv (kk ρ H locs ls _ mc_ext.rf ⟨hL, ⟨_, _, rfl, rfl, hst⟩, hW, hT⟩)
theorem mc_i_sipush (C : mc_Cx p s m args meth c D A y) (hat : mc_At D s A y.2.2.1 (pc, L, st, h, c0, n0) ρ H locs ls st') {i : Int} (hv : (Int16.ofInt i).toInt32 = iv) (hd : decode y.2.1 pc = .ok (.sipush i, 3)) (hs : mc_stepI (.sipush i) (pc + 3) a b iv lv sw vs L st h c0 n0 = some (.inl alts)) (ha : mc_alt alts = some S') (kk : mc_Kn p l e R s m args below meth c Q D A y.2.2.1 ρ S') : W p l e R s m args below meth c H locs c0 n0 Q (F0 m pc ls st') := by
  obtain ⟨hx, hb, hml, hown, hts, hNW, hnm, hK, hA⟩ := C
  obtain ⟨hL, hst, hW, hT⟩ := hat
  dsimp only [mc_stepI] at hs
  obtain rfl := mc_alt0 hs ha
  exact lv_sipush hx hb hd hv (kk ρ H locs ls _ mc_ext.rf ⟨hL, ⟨_, _, rfl, rfl, hst⟩, hW, hT⟩)
theorem mc_i_lconst (C : mc_Cx p s m args meth c D A y) (hat : mc_At D s A y.2.2.1 (pc, L, st, h, c0, n0) ρ H locs ls st') {i : Fin 2} (hv : Int64.ofNat (i : Nat) = lv) (hd : decode y.2.1 pc = .ok (.lconst i, 1)) (hs : mc_stepI (.lconst i) (pc + 1) a b iv lv sw vs L st h c0 n0 = some (.inl alts)) (ha : mc_alt alts = some S') (kk : mc_Kn p l e R s m args below meth c Q D A y.2.2.1 ρ S') : W p l e R s m args below meth c H locs c0 n0 Q (F0 m pc ls st') := by
  obtain ⟨hx, hb, hml, hown, hts, hNW, hnm, hK, hA⟩ := C
  obtain ⟨hL, hst, hW, hT⟩ := hat
  dsimp only [mc_stepI] at hs
  obtain rfl := mc_alt0 hs ha
  exact lv_lconst hx hb hd hv (kk ρ H locs ls _ mc_ext.rf ⟨hL, ⟨_, _, rfl, rfl, hst⟩, hW, hT⟩)
theorem mc_i_ldc (C : mc_Cx p s m args meth c D A y) (hat : mc_At D s A y.2.2.1 (pc, L, st, h, c0, n0) ρ H locs ls st') {i : Nat} (hw : Jvm.Cond.constant y.1.cls i iv ∈ mc_gw) (hd : decode y.2.1 pc = .ok (.ldc i, 2)) (hs : mc_stepI (.ldc i) (pc + 2) a b iv lv sw vs L st h c0 n0 = some (.inl alts)) (ha : mc_alt alts = some S') (kk : mc_Kn p l e R s m args below meth c Q D A y.2.2.1 ρ S') : W p l e R s m args below meth c H locs c0 n0 Q (F0 m pc ls st') := by
  obtain ⟨hx, hb, hml, hown, hts, hNW, hnm, hK, hA⟩ := C
  obtain ⟨hL, hst, hW, hT⟩ := hat
  dsimp only [mc_stepI] at hs
  obtain rfl := mc_alt0 hs ha
  exact lv_ldc hx hb hown (hts _ hw) hd (kk ρ H locs ls _ mc_ext.rf ⟨hL, ⟨_, _, rfl, rfl, hst⟩, hW, hT⟩)
theorem mc_i_ldc_w (C : mc_Cx p s m args meth c D A y) (hat : mc_At D s A y.2.2.1 (pc, L, st, h, c0, n0) ρ H locs ls st') {i : Nat} (hw : Jvm.Cond.constant y.1.cls i iv ∈ mc_gw) (hd : decode y.2.1 pc = .ok (.ldc_w i, 3)) (hs : mc_stepI (.ldc_w i) (pc + 3) a b iv lv sw vs L st h c0 n0 = some (.inl alts)) (ha : mc_alt alts = some S') (kk : mc_Kn p l e R s m args below meth c Q D A y.2.2.1 ρ S') : W p l e R s m args below meth c H locs c0 n0 Q (F0 m pc ls st') := by
  obtain ⟨hx, hb, hml, hown, hts, hNW, hnm, hK, hA⟩ := C
  obtain ⟨hL, hst, hW, hT⟩ := hat
  dsimp only [mc_stepI] at hs
  obtain rfl := mc_alt0 hs ha
  exact lv_ldcw hx hb hown (hts _ hw) hd (kk ρ H locs ls _ mc_ext.rf ⟨hL, ⟨_, _, rfl, rfl, hst⟩, hW, hT⟩)
theorem mc_i_ldc2_w (C : mc_Cx p s m args meth c D A y) (hat : mc_At D s A y.2.2.1 (pc, L, st, h, c0, n0) ρ H locs ls st') {i : Nat} (hw : Jvm.Cond.constantLong y.1.cls i lv ∈ mc_gw) (hd : decode y.2.1 pc = .ok (.ldc2_w i, 3)) (hs : mc_stepI (.ldc2_w i) (pc + 3) a b iv lv sw vs L st h c0 n0 = some (.inl alts)) (ha : mc_alt alts = some S') (kk : mc_Kn p l e R s m args below meth c Q D A y.2.2.1 ρ S') : W p l e R s m args below meth c H locs c0 n0 Q (F0 m pc ls st') := by
  obtain ⟨hx, hb, hml, hown, hts, hNW, hnm, hK, hA⟩ := C
  obtain ⟨hL, hst, hW, hT⟩ := hat
  dsimp only [mc_stepI] at hs
  obtain rfl := mc_alt0 hs ha
  exact lv_ldc2 hx hb hown (hts _ hw) hd (kk ρ H locs ls _ mc_ext.rf ⟨hL, ⟨_, _, rfl, rfl, hst⟩, hW, hT⟩)
theorem mc_i_iload_n (C : mc_Cx p s m args meth c D A y) (hat : mc_At D s A y.2.2.1 (pc, L, st, h, c0, n0) ρ H locs ls st') {k : Fin 4} (hk : (k : Nat) = a) (hd : decode y.2.1 pc = .ok (.iload_n k, 1)) (hs : mc_stepI (.iload_n k) (pc + 1) a b iv lv sw vs L st h c0 n0 = some (.inl alts)) (ha : mc_alt alts = some S') (kk : mc_Kn p l e R s m args below meth c Q D A y.2.2.1 ρ S') : W p l e R s m args below meth c H locs c0 n0 Q (F0 m pc ls st') := by
  obtain ⟨hx, hb, hml, hown, hts, hNW, hnm, hK, hA⟩ := C
  obtain ⟨hL, hst, hW, hT⟩ := hat
  dsimp only [mc_stepI] at hs
  split at hs
  · rename_i x hx1
    obtain ⟨w, rfl, hlw⟩ := hL.2.2 a (.int x) (by rw [← mc_get_eq]; assumption)
    obtain rfl := mc_alt0 hs ha
    exact lv_iload_n hx hb hd hk hlw (kk ρ H locs ls _ mc_ext.rf ⟨hL, ⟨_, _, rfl, rfl, hst⟩, hW, hT⟩)
  · cases hs
theorem mc_i_iload (C : mc_Cx p s m args meth c D A y) (hat : mc_At D s A y.2.2.1 (pc, L, st, h, c0, n0) ρ H locs ls st') {k : Nat} (hk : k = a) (hd : decode y.2.1 pc = .ok (.iload k, 2)) (hs : mc_stepI (.iload k) (pc + 2) a b iv lv sw vs L st h c0 n0 = some (.inl alts)) (ha : mc_alt alts = some S') (kk : mc_Kn p l e R s m args below meth c Q D A y.2.2.1 ρ S') : W p l e R s m args below meth c H locs c0 n0 Q (F0 m pc ls st') := by
  obtain ⟨hx, hb, hml, hown, hts, hNW, hnm, hK, hA⟩ := C
  obtain ⟨hL, hst, hW, hT⟩ := hat
  dsimp only [mc_stepI] at hs
  split at hs
  · rename_i x hx1
    subst hk
    obtain ⟨w, rfl, hlw⟩ := hL.2.2 k (.int x) (by rw [← mc_get_eq]; assumption)
    obtain rfl := mc_alt0 hs ha
    exact lv_iload hx hb hd hlw (kk ρ H locs ls _ mc_ext.rf ⟨hL, ⟨_, _, rfl, rfl, hst⟩, hW, hT⟩)
  · cases hs
theorem mc_i_lload_n (C : mc_Cx p s m args meth c D A y) (hat : mc_At D s A y.2.2.1 (pc, L, st, h, c0, n0) ρ H locs ls st') {k : Fin 4} (hk : (k : Nat) = a) (hd : decode y.2.1 pc = .ok (.lload_n k, 1)) (hs : mc_stepI (.lload_n k) (pc + 1) a b iv lv sw vs L st h c0 n0 = some (.inl alts)) (ha : mc_alt alts = some S') (kk : mc_Kn p l e R s m args below meth c Q D A y.2.2.1 ρ S') : W p l e R s m args below meth c H locs c0 n0 Q (F0 m pc ls st') := by
  obtain ⟨hx, hb, hml, hown, hts, hNW, hnm, hK, hA⟩ := C
  obtain ⟨hL, hst, hW, hT⟩ := hat
  dsimp only [mc_stepI] at hs
  split at hs
  · rename_i x hx1
    obtain ⟨w, rfl, hlw⟩ := hL.2.2 a (.long x) (by rw [← mc_get_eq]; assumption)
    obtain rfl := mc_alt0 hs ha
    exact lv_lload_n hx hb hd hk hlw (kk ρ H locs ls _ mc_ext.rf ⟨hL, ⟨_, _, rfl, rfl, hst⟩, hW, hT⟩)
  · cases hs
theorem mc_i_lload (C : mc_Cx p s m args meth c D A y) (hat : mc_At D s A y.2.2.1 (pc, L, st, h, c0, n0) ρ H locs ls st') {k : Nat} (hk : k = a) (hd : decode y.2.1 pc = .ok (.lload k, 2)) (hs : mc_stepI (.lload k) (pc + 2) a b iv lv sw vs L st h c0 n0 = some (.inl alts)) (ha : mc_alt alts = some S') (kk : mc_Kn p l e R s m args below meth c Q D A y.2.2.1 ρ S') : W p l e R s m args below meth c H locs c0 n0 Q (F0 m pc ls st') := by
  obtain ⟨hx, hb, hml, hown, hts, hNW, hnm, hK, hA⟩ := C
  obtain ⟨hL, hst, hW, hT⟩ := hat
  dsimp only [mc_stepI] at hs
  split at hs
  · rename_i x hx1
    subst hk
    obtain ⟨w, rfl, hlw⟩ := hL.2.2 k (.long x) (by rw [← mc_get_eq]; assumption)
    obtain rfl := mc_alt0 hs ha
    exact lv_lload hx hb hd hlw (kk ρ H locs ls _ mc_ext.rf ⟨hL, ⟨_, _, rfl, rfl, hst⟩, hW, hT⟩)
  · cases hs
theorem mc_i_aload_n (C : mc_Cx p s m args meth c D A y) (hat : mc_At D s A y.2.2.1 (pc, L, st, h, c0, n0) ρ H locs ls st') {k : Fin 4} (hk : (k : Nat) = a) (hd : decode y.2.1 pc = .ok (.aload_n k, 1)) (hs : mc_stepI (.aload_n k) (pc + 1) a b iv lv sw vs L st h c0 n0 = some (.inl alts)) (ha : mc_alt alts = some S') (kk : mc_Kn p l e R s m args below meth c Q D A y.2.2.1 ρ S') : W p l e R s m args below meth c H locs c0 n0 Q (F0 m pc ls st') := by
  obtain ⟨hx, hb, hml, hown, hts, hNW, hnm, hK, hA⟩ := C
  obtain ⟨hL, hst, hW, hT⟩ := hat
  dsimp only [mc_stepI] at hs
  split at hs
  · rename_i x hx1
    obtain ⟨w, ⟨q, hq, rfl⟩, hlw⟩ := hL.2.2 a (.ref x) (by rw [← mc_get_eq]; assumption)
    obtain rfl := mc_alt0 hs ha
    exact lv_aload_n hx hb hd hk hlw (kk ρ H locs ls _ mc_ext.rf ⟨hL, ⟨_, _, rfl, ⟨q, hq, rfl⟩, hst⟩, hW, hT⟩)
  · cases hs
theorem mc_i_aload (C : mc_Cx p s m args meth c D A y) (hat : mc_At D s A y.2.2.1 (pc, L, st, h, c0, n0) ρ H locs ls st') {k : Nat} (hk : k = a) (hd : decode y.2.1 pc = .ok (.aload k, 2)) (hs : mc_stepI (.aload k) (pc + 2) a b iv lv sw vs L st h c0 n0 = some (.inl alts)) (ha : mc_alt alts = some S') (kk : mc_Kn p l e R s m args below meth c Q D A y.2.2.1 ρ S') : W p l e R s m args below meth c H locs c0 n0 Q (F0 m pc ls st') := by
  obtain ⟨hx, hb, hml, hown, hts, hNW, hnm, hK, hA⟩ := C
  obtain ⟨hL, hst, hW, hT⟩ := hat
  dsimp only [mc_stepI] at hs
  split at hs
  · rename_i x hx1
    subst hk
    obtain ⟨w, ⟨q, hq, rfl⟩, hlw⟩ := hL.2.2 k (.ref x) (by rw [← mc_get_eq]; assumption)
    obtain rfl := mc_alt0 hs ha
    exact lv_aload hx hb hd hlw (kk ρ H locs ls _ mc_ext.rf ⟨hL, ⟨_, _, rfl, ⟨q, hq, rfl⟩, hst⟩, hW, hT⟩)
  · cases hs
theorem mc_i_istore_n (C : mc_Cx p s m args meth c D A y) (hat : mc_At D s A y.2.2.1 (pc, L, st, h, c0, n0) ρ H locs ls st') {k : Fin 4} (hk : (k : Nat) = a) (hlt : a < y.2.2.1) (hd : decode y.2.1 pc = .ok (.istore_n k, 1)) (hs : mc_stepI (.istore_n k) (pc + 1) a b iv lv sw vs L st h c0 n0 = some (.inl alts)) (ha : mc_alt alts = some S') (kk : mc_Kn p l e R s m args below meth c Q D A y.2.2.1 ρ S') : W p l e R s m args below meth c H locs c0 n0 Q (F0 m pc ls st') := by
  obtain ⟨hx, hb, hml, hown, hts, hNW, hnm, hK, hA⟩ := C
  obtain ⟨hL, hst, hW, hT⟩ := hat
  dsimp only [mc_stepI] at hs
  split at hs
  · rename_i x r
    obtain ⟨_, _, rfl, rfl, hr⟩ := hst
    cases hn : mc_nl L _ with
    | false => rw [hn] at hs; cases hs
    | true =>
      rw [hn] at hs
      simp only [cond_true, mc_set_eq] at hs
      obtain rfl := mc_alt0 hs ha
      exact lv_istore_n hx hb hd hk (mc_lst_has hL.1 hL.2.1) hlt rfl (fun ls' hl' => kk ρ H locs ls' _ mc_ext.rf ⟨hL.store1 hn rfl hl', hr, hW, hT⟩)
  · cases hs
theorem mc_i_istore (C : mc_Cx p s m args meth c D A y) (hat : mc_At D s A y.2.2.1 (pc, L, st, h, c0, n0) ρ H locs ls st') {k : Nat} (hk : k = a) (hlt : a < y.2.2.1) (hd : decode y.2.1 pc = .ok (.istore k, 2)) (hs : mc_stepI (.istore k) (pc + 2) a b iv lv sw vs L st h c0 n0 = some (.inl alts)) (ha : mc_alt alts = some S') (kk : mc_Kn p l e R s m args below meth c Q D A y.2.2.1 ρ S') : W p l e R s m args below meth c H locs c0 n0 Q (F0 m pc ls st') := by
  obtain ⟨hx, hb, hml, hown, hts, hNW, hnm, hK, hA⟩ := C
  obtain ⟨hL, hst, hW, hT⟩ := hat
  dsimp only [mc_stepI] at hs
  split at hs
  · rename_i x r
    subst hk
    obtain ⟨_, _, rfl, rfl, hr⟩ := hst
    cases hn : mc_nl L _ with
    | false => rw [hn] at hs; cases hs
    | true =>
      rw [hn] at hs
      simp only [cond_true, mc_set_eq] at hs
      obtain rfl := mc_alt0 hs ha
      exact lv_istore hx hb hd (mc_lst_has hL.1 hL.2.1) hlt rfl (fun ls' hl' => kk ρ H locs ls' _ mc_ext.rf ⟨hL.store1 hn rfl hl', hr, hW, hT⟩)
  · cases hs
theorem mc_i_astore_n (C : mc_Cx p s m args meth c D A y) (hat : mc_At D s A y.2.2.1 (pc, L, st, h, c0, n0) ρ H locs ls st') {k : Fin 4} (hk : (k : Nat) = a) (hlt : a < y.2.2.1) (hd : decode y.2.1 pc = .ok (.astore_n k, 1)) (hs : mc_stepI (.astore_n k) (pc + 1) a b iv lv sw vs L st h c0 n0 = some (.inl alts)) (ha : mc_alt alts = some S') (kk : mc_Kn p l e R s m args below meth c Q D A y.2.2.1 ρ S') : W p l e R s m args below meth c H locs c0 n0 Q (F0 m pc ls st') := by
  obtain ⟨hx, hb, hml, hown, hts, hNW, hnm, hK, hA⟩ := C
  obtain ⟨hL, hst, hW, hT⟩ := hat
  dsimp only [mc_stepI] at hs
  split at hs
  · rename_i x r
    obtain ⟨_, _, rfl, ⟨q, hq, rfl⟩, hr⟩ := hst
    cases hn : mc_nl L _ with
    | false => rw [hn] at hs; cases hs
    | true =>
      rw [hn] at hs
      simp only [cond_true, mc_set_eq] at hs
      obtain rfl := mc_alt0 hs ha
      exact lv_astore_n hx hb hd hk (mc_lst_has hL.1 hL.2.1) hlt rfl (fun ls' hl' => kk ρ H locs ls' _ mc_ext.rf ⟨hL.store1 hn ⟨q, hq, rfl⟩ hl', hr, hW, hT⟩)
  · cases hs
theorem mc_i_lstore_n (C : mc_Cx p s m args meth c D A y) (hat : mc_At D s A y.2.2.1 (pc, L, st, h, c0, n0) ρ H locs ls st') {k : Fin 4} (hk : (k : Nat) = a) (hlt : a + 1 < y.2.2.1) (hd : decode y.2.1 pc = .ok (.lstore_n k, 1)) (hs : mc_stepI (.lstore_n k) (pc + 1) a b iv lv sw vs L st h c0 n0 = some (.inl alts)) (ha : mc_alt alts = some S') (kk : mc_Kn p l e R s m args below meth c Q D A y.2.2.1 ρ S') : W p l e R s m args below meth c H locs c0 n0 Q (F0 m pc ls st') := by
  obtain ⟨hx, hb, hml, hown, hts, hNW, hnm, hK, hA⟩ := C
  obtain ⟨hL, hst, hW, hT⟩ := hat
  dsimp only [mc_stepI] at hs
  split at hs
  · rename_i x r
    obtain ⟨_, _, rfl, rfl, hr⟩ := hst
    cases hn : mc_nl L _ with
    | false => rw [hn] at hs; cases hs
    | true =>
      rw [hn] at hs
      simp only [cond_true, mc_set_eq] at hs
      obtain rfl := mc_alt0 hs ha
      exact lv_lstore_n hx hb hd hk (mc_lst_has hL.1 hL.2.1) hlt rfl (fun ls' hl' => kk ρ H locs ls' _ mc_ext.rf ⟨hL.store2 hn rfl hl', hr, hW, hT⟩)
  · cases hs
theorem mc_i_lstore (C : mc_Cx p s m args meth c D A y) (hat : mc_At D s A y.2.2.1 (pc, L, st, h, c0, n0) ρ H locs ls st') {k : Nat} (hk : k = a) (hlt : a + 1 < y.2.2.1) (hd : decode y.2.1 pc = .ok (.lstore k, 2)) (hs : mc_stepI (.lstore k) (pc + 2) a b iv lv sw vs L st h c0 n0 = some (.inl alts)) (ha : mc_alt alts = some S') (kk : mc_Kn p l e R s m args below meth c Q D A y.2.2.1 ρ S') : W p l e R s m args below meth c H locs c0 n0 Q (F0 m pc ls st') := by
  obtain ⟨hx, hb, hml, hown, hts, hNW, hnm, hK, hA⟩ := C
  obtain ⟨hL, hst, hW, hT⟩ := hat
  dsimp only [mc_stepI] at hs
  split at hs
  · rename_i x r
    subst hk
    obtain ⟨_, _, rfl, rfl, hr⟩ := hst
    cases hn : mc_nl L _ with
    | false => rw [hn] at hs; cases hs
    | true =>
      rw [hn] at hs
      simp only [cond_true, mc_set_eq] at hs
      obtain rfl := mc_alt0 hs ha
      exact lv_lstore hx hb hd (mc_lst_has hL.1 hL.2.1) hlt rfl (fun ls' hl' => kk ρ H locs ls' _ mc_ext.rf ⟨hL.store2 hn rfl hl', hr, hW, hT⟩)
  · cases hs
theorem mc_i_iinc (C : mc_Cx p s m args meth c D A y) (hat : mc_At D s A y.2.2.1 (pc, L, st, h, c0, n0) ρ H locs ls st') {i : Nat} {k : Int} (hi : i = a) (hv : Int32.ofInt k = iv) (hlt : a < y.2.2.1) (hd : decode y.2.1 pc = .ok (.iinc i k, 3)) (hs : mc_stepI (.iinc i k) (pc + 3) a b iv lv sw vs L st h c0 n0 = some (.inl alts)) (ha : mc_alt alts = some S') (kk : mc_Kn p l e R s m args below meth c Q D A y.2.2.1 ρ S') : W p l e R s m args below meth c H locs c0 n0 Q (F0 m pc ls st') := by
  obtain ⟨hx, hb, hml, hown, hts, hNW, hnm, hK, hA⟩ := C
  obtain ⟨hL, hst, hW, hT⟩ := hat
  dsimp only [mc_stepI] at hs
  split at hs
  · rename_i x hx1
    subst hi
    subst hv
    obtain ⟨w, rfl, hlw⟩ := hL.2.2 i (.int x) (by rw [← mc_get_eq]; assumption)
    cases hn : mc_nl L i with
    | false => rw [hn] at hs; cases hs
    | true =>
      rw [hn] at hs
      simp only [cond_true, mc_set_eq] at hs
      obtain rfl := mc_alt0 hs ha
      obtain ⟨k9, hk9⟩ := List.getElem?_of_mem (mc_lst_in hlw)
      exact lv_iinc hx hb hd (mc_lst_has hL.1 hL.2.1) hk9 rfl hlt rfl (fun ls' hl' => kk ρ H locs ls' _ mc_ext.rf ⟨hL.store1 hn rfl hl', hst, hW, hT⟩)
  · cases hs
theorem mc_i_iadd (C : mc_Cx p s m args meth c D A y) (hat : mc_At D s A y.2.2.1 (pc, L, st, h, c0, n0) ρ H locs ls st') (hd : decode y.2.1 pc = .ok (.iadd, 1)) (hs : mc_stepI (.iadd) (pc + 1) a b iv lv sw vs L st h c0 n0 = some (.inl alts)) (ha : mc_alt alts = some S') (kk : mc_Kn p l e R s m args below meth c Q D A y.2.2.1 ρ S') : W p l e R s m args below meth c H locs c0 n0 Q (F0 m pc ls st') := by
  obtain ⟨hx, hb, hml, hown, hts, hNW, hnm, hK, hA⟩ := C
  obtain ⟨hL, hst, hW, hT⟩ := hat
  dsimp only [mc_stepI] at hs
  split at hs
  · obtain ⟨_, _, rfl, rfl, _, _, rfl, rfl, hr⟩ := hst
    obtain rfl := mc_alt0 hs ha
    exact lv_iadd hx hb hd (kk ρ H locs ls _ mc_ext.rf ⟨hL, ⟨_, _, rfl, rfl, hr⟩, hW, hT⟩)
  · cases hs
theorem mc_i_isub (C : mc_Cx p s m args meth c D A y) (hat : mc_At D s A y.2.2.1 (pc, L, st, h, c0, n0) ρ H locs ls st') (hd : decode y.2.1 pc = .ok (.isub, 1)) (hs : mc_stepI (.isub) (pc + 1) a b iv lv sw vs L st h c0 n0 = some (.inl alts)) (ha : mc_alt alts = some S') (kk : mc_Kn p l e R s m args below meth c Q D A y.2.2.1 ρ S') : W p l e R s m args below meth c H locs c0 n0 Q (F0 m pc ls st') := by
  obtain ⟨hx, hb, hml, hown, hts, hNW, hnm, hK, hA⟩ := C
  obtain ⟨hL, hst, hW, hT⟩ := hat
  dsimp only [mc_stepI] at hs
  split at hs
  · obtain ⟨_, _, rfl, rfl, _, _, rfl, rfl, hr⟩ := hst
    obtain rfl := mc_alt0 hs ha
    exact lv_isub hx hb hd (kk ρ H locs ls _ mc_ext.rf ⟨hL, ⟨_, _, rfl, rfl, hr⟩, hW, hT⟩)
  · cases hs
theorem mc_i_imul (C : mc_Cx p s m args meth c D A y) (hat : mc_At D s A y.2.2.1 (pc, L, st, h, c0, n0) ρ H locs ls st') (hd : decode y.2.1 pc = .ok (.imul, 1)) (hs : mc_stepI (.imul) (pc + 1) a b iv lv sw vs L st h c0 n0 = some (.inl alts)) (ha : mc_alt alts = some S') (kk : mc_Kn p l e R s m args below meth c Q D A y.2.2.1 ρ S') : W p l e R s m args below meth c H locs c0 n0 Q (F0 m pc ls st') := by
  obtain ⟨hx, hb, hml, hown, hts, hNW, hnm, hK, hA⟩ := C
  obtain ⟨hL, hst, hW, hT⟩ := hat
  dsimp only [mc_stepI] at hs
  split at hs
  · obtain ⟨_, _, rfl, rfl, _, _, rfl, rfl, hr⟩ := hst
    obtain rfl := mc_alt0 hs ha
    exact lv_imul hx hb hd (kk ρ H locs ls _ mc_ext.rf ⟨hL, ⟨_, _, rfl, rfl, hr⟩, hW, hT⟩)
  · cases hs
theorem mc_i_iand (C : mc_Cx p s m args meth c D A y) (hat : mc_At D s A y.2.2.1 (pc, L, st, h, c0, n0) ρ H locs ls st') (hd : decode y.2.1 pc = .ok (.iand, 1)) (hs : mc_stepI (.iand) (pc + 1) a b iv lv sw vs L st h c0 n0 = some (.inl alts)) (ha : mc_alt alts = some S') (kk : mc_Kn p l e R s m args below meth c Q D A y.2.2.1 ρ S') : W p l e R s m args below meth c H locs c0 n0 Q (F0 m pc ls st') := by
  obtain ⟨hx, hb, hml, hown, hts, hNW, hnm, hK, hA⟩ := C
  obtain ⟨hL, hst, hW, hT⟩ := hat
  dsimp only [mc_stepI] at hs
  split at hs
  · obtain ⟨_, _, rfl, rfl, _, _, rfl, rfl, hr⟩ := hst
    obtain rfl := mc_alt0 hs ha
    exact lv_iand hx hb hd (kk ρ H locs ls _ mc_ext.rf ⟨hL, ⟨_, _, rfl, rfl, hr⟩, hW, hT⟩)
  · cases hs
theorem mc_i_ior (C : mc_Cx p s m args meth c D A y) (hat : mc_At D s A y.2.2.1 (pc, L, st, h, c0, n0) ρ H locs ls st') (hd : decode y.2.1 pc = .ok (.ior, 1)) (hs : mc_stepI (.ior) (pc + 1) a b iv lv sw vs L st h c0 n0 = some (.inl alts)) (ha : mc_alt alts = some S') (kk : mc_Kn p l e R s m args below meth c Q D A y.2.2.1 ρ S') : W p l e R s m args below meth c H locs c0 n0 Q (F0 m pc ls st') := by
  obtain ⟨hx, hb, hml, hown, hts, hNW, hnm, hK, hA⟩ := C
  obtain ⟨hL, hst, hW, hT⟩ := hat
  dsimp only [mc_stepI] at hs
  split at hs
  · obtain ⟨_, _, rfl, rfl, _, _, rfl, rfl, hr⟩ := hst
    obtain rfl := mc_alt0 hs ha
    exact lv_ior hx hb hd (kk ρ H locs ls _ mc_ext.rf ⟨hL, ⟨_, _, rfl, rfl, hr⟩, hW, hT⟩)
  · cases hs
theorem mc_i_ixor (C : mc_Cx p s m args meth c D A y) (hat : mc_At D s A y.2.2.1 (pc, L, st, h, c0, n0) ρ H locs ls st') (hd : decode y.2.1 pc = .ok (.ixor, 1)) (hs : mc_stepI (.ixor) (pc + 1) a b iv lv sw vs L st h c0 n0 = some (.inl alts)) (ha : mc_alt alts = some S') (kk : mc_Kn p l e R s m args below meth c Q D A y.2.2.1 ρ S') : W p l e R s m args below meth c H locs c0 n0 Q (F0 m pc ls st') := by
  obtain ⟨hx, hb, hml, hown, hts, hNW, hnm, hK, hA⟩ := C
  obtain ⟨hL, hst, hW, hT⟩ := hat
  dsimp only [mc_stepI] at hs
  split at hs
  · obtain ⟨_, _, rfl, rfl, _, _, rfl, rfl, hr⟩ := hst
    obtain rfl := mc_alt0 hs ha
    exact lv_ixor hx hb hd (kk ρ H locs ls _ mc_ext.rf ⟨hL, ⟨_, _, rfl, rfl, hr⟩, hW, hT⟩)
  · cases hs
theorem mc_i_ishl (C : mc_Cx p s m args meth c D A y) (hat : mc_At D s A y.2.2.1 (pc, L, st, h, c0, n0) ρ H locs ls st') (hd : decode y.2.1 pc = .ok (.ishl, 1)) (hs : mc_stepI (.ishl) (pc + 1) a b iv lv sw vs L st h c0 n0 = some (.inl alts)) (ha : mc_alt alts = some S') (kk : mc_Kn p l e R s m args below meth c Q D A y.2.2.1 ρ S') : W p l e R s m args below meth c H locs c0 n0 Q (F0 m pc ls st') := by
  obtain ⟨hx, hb, hml, hown, hts, hNW, hnm, hK, hA⟩ := C
  obtain ⟨hL, hst, hW, hT⟩ := hat
  dsimp only [mc_stepI] at hs
  split at hs
  · obtain ⟨_, _, rfl, rfl, _, _, rfl, rfl, hr⟩ := hst
    obtain rfl := mc_alt0 hs ha
    exact lv_ishl hx hb hd (kk ρ H locs ls _ mc_ext.rf ⟨hL, ⟨_, _, rfl, rfl, hr⟩, hW, hT⟩)
  · cases hs
theorem mc_i_ishr (C : mc_Cx p s m args meth c D A y) (hat : mc_At D s A y.2.2.1 (pc, L, st, h, c0, n0) ρ H locs ls st') (hd : decode y.2.1 pc = .ok (.ishr, 1)) (hs : mc_stepI (.ishr) (pc + 1) a b iv lv sw vs L st h c0 n0 = some (.inl alts)) (ha : mc_alt alts = some S') (kk : mc_Kn p l e R s m args below meth c Q D A y.2.2.1 ρ S') : W p l e R s m args below meth c H locs c0 n0 Q (F0 m pc ls st') := by
  obtain ⟨hx, hb, hml, hown, hts, hNW, hnm, hK, hA⟩ := C
  obtain ⟨hL, hst, hW, hT⟩ := hat
  dsimp only [mc_stepI] at hs
  split at hs
  · obtain ⟨_, _, rfl, rfl, _, _, rfl, rfl, hr⟩ := hst
    obtain rfl := mc_alt0 hs ha
    exact lv_ishr hx hb hd (kk ρ H locs ls _ mc_ext.rf ⟨hL, ⟨_, _, rfl, rfl, hr⟩, hW, hT⟩)
  · cases hs
theorem mc_i_ladd (C : mc_Cx p s m args meth c D A y) (hat : mc_At D s A y.2.2.1 (pc, L, st, h, c0, n0) ρ H locs ls st') (hd : decode y.2.1 pc = .ok (.ladd, 1)) (hs : mc_stepI (.ladd) (pc + 1) a b iv lv sw vs L st h c0 n0 = some (.inl alts)) (ha : mc_alt alts = some S') (kk : mc_Kn p l e R s m args below meth c Q D A y.2.2.1 ρ S') : W p l e R s m args below meth c H locs c0 n0 Q (F0 m pc ls st') := by
  obtain ⟨hx, hb, hml, hown, hts, hNW, hnm, hK, hA⟩ := C
  obtain ⟨hL, hst, hW, hT⟩ := hat
  dsimp only [mc_stepI] at hs
  split at hs
  · obtain ⟨_, _, rfl, rfl, _, _, rfl, rfl, hr⟩ := hst
    obtain rfl := mc_alt0 hs ha
    exact lv_ladd hx hb hd (kk ρ H locs ls _ mc_ext.rf ⟨hL, ⟨_, _, rfl, rfl, hr⟩, hW, hT⟩)
  · cases hs
theorem mc_i_lmul (C : mc_Cx p s m args meth c D A y) (hat : mc_At D s A y.2.2.1 (pc, L, st, h, c0, n0) ρ H locs ls st') (hd : decode y.2.1 pc = .ok (.lmul, 1)) (hs : mc_stepI (.lmul) (pc + 1) a b iv lv sw vs L st h c0 n0 = some (.inl alts)) (ha : mc_alt alts = some S') (kk : mc_Kn p l e R s m args below meth c Q D A y.2.2.1 ρ S') : W p l e R s m args below meth c H locs c0 n0 Q (F0 m pc ls st') := by
  obtain ⟨hx, hb, hml, hown, hts, hNW, hnm, hK, hA⟩ := C
  obtain ⟨hL, hst, hW, hT⟩ := hat
  dsimp only [mc_stepI] at hs
  split at hs
  · obtain ⟨_, _, rfl, rfl, _, _, rfl, rfl, hr⟩ := hst
    obtain rfl := mc_alt0 hs ha
    exact lv_lmul hx hb hd (kk ρ H locs ls _ mc_ext.rf ⟨hL, ⟨_, _, rfl, rfl, hr⟩, hW, hT⟩)
  · cases hs
theorem mc_i_land (C : mc_Cx p s m args meth c D A y) (hat : mc_At D s A y.2.2.1 (pc, L, st, h, c0, n0) ρ H locs ls st') (hd : decode y.2.1 pc = .ok (.land, 1)) (hs : mc_stepI (.land) (pc + 1) a b iv lv sw vs L st h c0 n0 = some (.inl alts)) (ha : mc_alt alts = some S') (kk : mc_Kn p l e R s m args below meth c Q D A y.2.2.1 ρ S') : W p l e R s m args below meth c H locs c0 n0 Q (F0 m pc ls st') := by
  obtain ⟨hx, hb, hml, hown, hts, hNW, hnm, hK, hA⟩ := C
  obtain ⟨hL, hst, hW, hT⟩ := hat
  dsimp only [mc_stepI] at hs
  split at hs
  · obtain ⟨_, _, rfl, rfl, _, _, rfl, rfl, hr⟩ := hst
    obtain rfl := mc_alt0 hs ha
    exact lv_land hx hb hd (kk ρ H locs ls _ mc_ext.rf ⟨hL, ⟨_, _, rfl, rfl, hr⟩, hW, hT⟩)
  · cases hs
theorem mc_i_lor (C : mc_Cx p s m args meth c D A y) (hat : mc_At D s A y.2.2.1 (pc, L, st, h, c0, n0) ρ H locs ls st') (hd : decode y.2.1 pc = .ok (.lor, 1)) (hs : mc_stepI (.lor) (pc + 1) a b iv lv sw vs L st h c0 n0 = some (.inl alts)) (ha : mc_alt alts = some S') (kk : mc_Kn p l e R s m args below meth c Q D A y.2.2.1 ρ S') : W p l e R s m args below meth c H locs c0 n0 Q (F0 m pc ls st') := by
  obtain ⟨hx, hb, hml, hown, hts, hNW, hnm, hK, hA⟩ := C
  obtain ⟨hL, hst, hW, hT⟩ := hat
  dsimp only [mc_stepI] at hs
  split at hs
  · obtain ⟨_, _, rfl, rfl, _, _, rfl, rfl, hr⟩ := hst
    obtain rfl := mc_alt0 hs ha
    exact lv_lor hx hb hd (kk ρ H locs ls _ mc_ext.rf ⟨hL, ⟨_, _, rfl, rfl, hr⟩, hW, hT⟩)
  · cases hs
theorem mc_i_iushr (C : mc_Cx p s m args meth c D A y) (hat : mc_At D s A y.2.2.1 (pc, L, st, h, c0, n0) ρ H locs ls st') (hd : decode y.2.1 pc = .ok (.iushr, 1)) (hs : mc_stepI (.iushr) (pc + 1) a b iv lv sw vs L st h c0 n0 = some (.inl alts)) (ha : mc_alt alts = some S') (kk : mc_Kn p l e R s m args below meth c Q D A y.2.2.1 ρ S') : W p l e R s m args below meth c H locs c0 n0 Q (F0 m pc ls st') := by
  obtain ⟨hx, hb, hml, hown, hts, hNW, hnm, hK, hA⟩ := C
  obtain ⟨hL, hst, hW, hT⟩ := hat
  dsimp only [mc_stepI] at hs
  split at hs
  · obtain ⟨_, _, rfl, rfl, _, _, rfl, rfl, hr⟩ := hst
    obtain rfl := mc_alt0 hs ha
    exact lv_iushr hx hb hd rfl (kk ρ H locs ls _ mc_ext.rf ⟨hL, ⟨_, _, rfl, rfl, hr⟩, hW, hT⟩)
  · cases hs
theorem mc_i_lshl (C : mc_Cx p s m args meth c D A y) (hat : mc_At D s A y.2.2.1 (pc, L, st, h, c0, n0) ρ H locs ls st') (hd : decode y.2.1 pc = .ok (.lshl, 1)) (hs : mc_stepI (.lshl) (pc + 1) a b iv lv sw vs L st h c0 n0 = some (.inl alts)) (ha : mc_alt alts = some S') (kk : mc_Kn p l e R s m args below meth c Q D A y.2.2.1 ρ S') : W p l e R s m args below meth c H locs c0 n0 Q (F0 m pc ls st') := by
  obtain ⟨hx, hb, hml, hown, hts, hNW, hnm, hK, hA⟩ := C
  obtain ⟨hL, hst, hW, hT⟩ := hat
  dsimp only [mc_stepI] at hs
  split at hs
  · obtain ⟨_, _, rfl, rfl, _, _, rfl, rfl, hr⟩ := hst
    obtain rfl := mc_alt0 hs ha
    exact lv_lshl hx hb hd rfl (kk ρ H locs ls _ mc_ext.rf ⟨hL, ⟨_, _, rfl, rfl, hr⟩, hW, hT⟩)
  · cases hs
theorem mc_i_lushr (C : mc_Cx p s m args meth c D A y) (hat : mc_At D s A y.2.2.1 (pc, L, st, h, c0, n0) ρ H locs ls st') (hd : decode y.2.1 pc = .ok (.lushr, 1)) (hs : mc_stepI (.lushr) (pc + 1) a b iv lv sw vs L st h c0 n0 = some (.inl alts)) (ha : mc_alt alts = some S') (kk : mc_Kn p l e R s m args below meth c Q D A y.2.2.1 ρ S') : W p l e R s m args below meth c H locs c0 n0 Q (F0 m pc ls st') := by
  obtain ⟨hx, hb, hml, hown, hts, hNW, hnm, hK, hA⟩ := C
  obtain ⟨hL, hst, hW, hT⟩ := hat
  dsimp only [mc_stepI] at hs
  split at hs
  · obtain ⟨_, _, rfl, rfl, _, _, rfl, rfl, hr⟩ := hst
    obtain rfl := mc_alt0 hs ha
    exact lv_lushr hx hb hd rfl (kk ρ H locs ls _ mc_ext.rf ⟨hL, ⟨_, _, rfl, rfl, hr⟩, hW, hT⟩)
  · cases hs
theorem mc_i_idiv (C : mc_Cx p s m args meth c D A y) (hat : mc_At D s A y.2.2.1 (pc, L, st, h, c0, n0) ρ H locs ls st') (hd : decode y.2.1 pc = .ok (.idiv, 1)) (hs : mc_stepI (.idiv) (pc + 1) a b iv lv sw vs L st h c0 n0 = some (.inl alts)) (ha : mc_alt alts = some S') (kk : mc_Kn p l e R s m args below meth c Q D A y.2.2.1 ρ S') : W p l e R s m args below meth c H locs c0 n0 Q (F0 m pc ls st') := by
  obtain ⟨hx, hb, hml, hown, hts, hNW, hnm, hK, hA⟩ := C
  obtain ⟨hL, hst, hW, hT⟩ := hat
  dsimp only [mc_stepI] at hs
  split at hs
  · obtain ⟨_, _, rfl, rfl, _, _, rfl, rfl, hr⟩ := hst
    obtain ⟨hz, rfl⟩ := mc_alt1 hs ha
    exact lv_idiv hx hb hd (of_decide_eq_true hz) (kk ρ H locs ls _ mc_ext.rf ⟨hL, ⟨_, _, rfl, rfl, hr⟩, hW, hT⟩)
  · cases hs
theorem mc_i_irem (C : mc_Cx p s m args meth c D A y) (hat : mc_At D s A y.2.2.1 (pc, L, st, h, c0, n0) ρ H locs ls st') (hd : decode y.2.1 pc = .ok (.irem, 1)) (hs : mc_stepI (.irem) (pc + 1) a b iv lv sw vs L st h c0 n0 = some (.inl alts)) (ha : mc_alt alts = some S') (kk : mc_Kn p l e R s m args below meth c Q D A y.2.2.1 ρ S') : W p l e R s m args below meth c H locs c0 n0 Q (F0 m pc ls st') := by
  obtain ⟨hx, hb, hml, hown, hts, hNW, hnm, hK, hA⟩ := C
  obtain ⟨hL, hst, hW, hT⟩ := hat
  dsimp only [mc_stepI] at hs
  split at hs
  · obtain ⟨_, _, rfl, rfl, _, _, rfl, rfl, hr⟩ := hst
    obtain ⟨hz, rfl⟩ := mc_alt1 hs ha
    exact lv_irem hx hb hd (of_decide_eq_true hz) (kk ρ H locs ls _ mc_ext.rf ⟨hL, ⟨_, _, rfl, rfl, hr⟩, hW, hT⟩)
  · cases hs
theorem mc_i_ldiv (C : mc_Cx p s m args meth c D A y) (hat : mc_At D s A y.2.2.1 (pc, L, st, h, c0, n0) ρ H locs ls st') (hd : decode y.2.1 pc = .ok (.ldiv, 1)) (hs : mc_stepI (.ldiv) (pc + 1) a b iv lv sw vs L st h c0 n0 = some (.inl alts)) (ha : mc_alt alts = some S') (kk : mc_Kn p l e R s m args below meth c Q D A y.2.2.1 ρ S') : W p l e R s m args below meth c H locs c0 n0 Q (F0 m pc ls st') := by
  obtain ⟨hx, hb, hml, hown, hts, hNW, hnm, hK, hA⟩ := C
  obtain ⟨hL, hst, hW, hT⟩ := hat
  dsimp only [mc_stepI] at hs
  split at hs
  · obtain ⟨_, _, rfl, rfl, _, _, rfl, rfl, hr⟩ := hst
    obtain ⟨hz, rfl⟩ := mc_alt1 hs ha
    exact lv_ldiv hx hb hd (of_decide_eq_true hz) (kk ρ H locs ls _ mc_ext.rf ⟨hL, ⟨_, _, rfl, rfl, hr⟩, hW, hT⟩)
  · cases hs
theorem mc_i_lrem (C : mc_Cx p s m args meth c D A y) (hat : mc_At D s A y.2.2.1 (pc, L, st, h, c0, n0) ρ H locs ls st') (hd : decode y.2.1 pc = .ok (.lrem, 1)) (hs : mc_stepI (.lrem) (pc + 1) a b iv lv sw vs L st h c0 n0 = some (.inl alts)) (ha : mc_alt alts = some S') (kk : mc_Kn p l e R s m args below meth c Q D A y.2.2.1 ρ S') : W p l e R s m args below meth c H locs c0 n0 Q (F0 m pc ls st') := by
  obtain ⟨hx, hb, hml, hown, hts, hNW, hnm, hK, hA⟩ := C
  obtain ⟨hL, hst, hW, hT⟩ := hat
  dsimp only [mc_stepI] at hs
  split at hs
  · obtain ⟨_, _, rfl, rfl, _, _, rfl, rfl, hr⟩ := hst
    obtain ⟨hz, rfl⟩ := mc_alt1 hs ha
    exact lv_lrem hx hb hd (of_decide_eq_true hz) (kk ρ H locs ls _ mc_ext.rf ⟨hL, ⟨_, _, rfl, rfl, hr⟩, hW, hT⟩)
  · cases hs
theorem mc_i_lcmp (C : mc_Cx p s m args meth c D A y) (hat : mc_At D s A y.2.2.1 (pc, L, st, h, c0, n0) ρ H locs ls st') (hd : decode y.2.1 pc = .ok (.lcmp, 1)) (hs : mc_stepI (.lcmp) (pc + 1) a b iv lv sw vs L st h c0 n0 = some (.inl alts)) (ha : mc_alt alts = some S') (kk : mc_Kn p l e R s m args below meth c Q D A y.2.2.1 ρ S') : W p l e R s m args below meth c H locs c0 n0 Q (F0 m pc ls st') := by
  obtain ⟨hx, hb, hml, hown, hts, hNW, hnm, hK, hA⟩ := C
  obtain ⟨hL, hst, hW, hT⟩ := hat
  dsimp only [mc_stepI] at hs
  split at hs
  · obtain ⟨_, _, rfl, rfl, _, _, rfl, rfl, hr⟩ := hst
    obtain rfl := mc_alt0 hs ha
    exact W.lcmp hx hb hd (kk ρ H locs ls _ mc_ext.rf ⟨hL, ⟨_, _, rfl, rfl, hr⟩, hW, hT⟩)
  · cases hs
theorem mc_i_ineg (C : mc_Cx p s m args meth c D A y) (hat : mc_At D s A y.2.2.1 (pc, L, st, h, c0, n0) ρ H locs ls st') (hd : decode y.2.1 pc = .ok (.ineg, 1)) (hs : mc_stepI (.ineg) (pc + 1) a b iv lv sw vs L st h c0 n0 = some (.inl alts)) (ha : mc_alt alts = some S') (kk : mc_Kn p l e R s m args below meth c Q D A y.2.2.1 ρ S') : W p l e R s m args below meth c H locs c0 n0 Q (F0 m pc ls st') := by
  obtain ⟨hx, hb, hml, hown, hts, hNW, hnm, hK, hA⟩ := C
  obtain ⟨hL, hst, hW, hT⟩ := hat
  dsimp only [mc_stepI] at hs
  split at hs
  · obtain ⟨_, _, rfl, rfl, hr⟩ := hst
    obtain rfl := mc_alt0 hs ha
    exact lv_ineg hx hb hd (kk ρ H locs ls _ mc_ext.rf ⟨hL, ⟨_, _, rfl, rfl, hr⟩, hW, hT⟩)
  · cases hs
theorem mc_i_i2l (C : mc_Cx p s m args meth c D A y) (hat : mc_At D s A y.2.2.1 (pc, L, st, h, c0, n0) ρ H locs ls st') (hd : decode y.2.1 pc = .ok (.i2l, 1)) (hs : mc_stepI (.i2l) (pc + 1) a b iv lv sw vs L st h c0 n0 = some (.inl alts)) (ha : mc_alt alts = some S') (kk : mc_Kn p l e R s m args below meth c Q D A y.2.2.1 ρ S') : W p l e R s m args below meth c H locs c0 n0 Q (F0 m pc ls st') := by
  obtain ⟨hx, hb, hml, hown, hts, hNW, hnm, hK, hA⟩ := C
  obtain ⟨hL, hst, hW, hT⟩ := hat
  dsimp only [mc_stepI] at hs
  split at hs
  · obtain ⟨_, _, rfl, rfl, hr⟩ := hst
    obtain rfl := mc_alt0 hs ha
    exact lv_i2l hx hb hd rfl (kk ρ H locs ls _ mc_ext.rf ⟨hL, ⟨_, _, rfl, rfl, hr⟩, hW, hT⟩)
  · cases hs
theorem mc_i_l2i (C : mc_Cx p s m args meth c D A y) (hat : mc_At D s A y.2.2.1 (pc, L, st, h, c0, n0) ρ H locs ls st') (hd : decode y.2.1 pc = .ok (.l2i, 1)) (hs : mc_stepI (.l2i) (pc + 1) a b iv lv sw vs L st h c0 n0 = some (.inl alts)) (ha : mc_alt alts = some S') (kk : mc_Kn p l e R s m args below meth c Q D A y.2.2.1 ρ S') : W p l e R s m args below meth c H locs c0 n0 Q (F0 m pc ls st') := by
  obtain ⟨hx, hb, hml, hown, hts, hNW, hnm, hK, hA⟩ := C
  obtain ⟨hL, hst, hW, hT⟩ := hat
  dsimp only [mc_stepI] at hs
  split at hs
  · obtain ⟨_, _, rfl, rfl, hr⟩ := hst
    obtain rfl := mc_alt0 hs ha
    exact lv_l2i hx hb hd rfl (kk ρ H locs ls _ mc_ext.rf ⟨hL, ⟨_, _, rfl, rfl, hr⟩, hW, hT⟩)
  · cases hs
theorem mc_i_i2b (C : mc_Cx p s m args meth c D A y) (hat : mc_At D s A y.2.2.1 (pc, L, st, h, c0, n0) ρ H locs ls st') (hd : decode y.2.1 pc = .ok (.i2b, 1)) (hs : mc_stepI (.i2b) (pc + 1) a b iv lv sw vs L st h c0 n0 = some (.inl alts)) (ha : mc_alt alts = some S') (kk : mc_Kn p l e R s m args below meth c Q D A y.2.2.1 ρ S') : W p l e R s m args below meth c H locs c0 n0 Q (F0 m pc ls st') := by
  obtain ⟨hx, hb, hml, hown, hts, hNW, hnm, hK, hA⟩ := C
  obtain ⟨hL, hst, hW, hT⟩ := hat
  dsimp only [mc_stepI] at hs
  split at hs
  · obtain ⟨_, _, rfl, rfl, hr⟩ := hst
    obtain rfl := mc_alt0 hs ha
    exact lv_i2b hx hb hd rfl (kk ρ H locs ls _ mc_ext.rf ⟨hL, ⟨_, _, rfl, rfl, hr⟩, hW, hT⟩)
  · cases hs
theorem mc_i_i2s (C : mc_Cx p s m args meth c D A y) (hat : mc_At D s A y.2.2.1 (pc, L, st, h, c0, n0) ρ H locs ls st') (hd : decode y.2.1 pc = .ok (.i2s, 1)) (hs : mc_stepI (.i2s) (pc + 1) a b iv lv sw vs L st h c0 n0 = some (.inl alts)) (ha : mc_alt alts = some S') (kk : mc_Kn p l e R s m args below meth c Q D A y.2.2.1 ρ S') : W p l e R s m args below meth c H locs c0 n0 Q (F0 m pc ls st') := by
  obtain ⟨hx, hb, hml, hown, hts, hNW, hnm, hK, hA⟩ := C
  obtain ⟨hL, hst, hW, hT⟩ := hat
  dsimp only [mc_stepI] at hs
  split at hs
  · obtain ⟨_, _, rfl, rfl, hr⟩ := hst
    obtain rfl := mc_alt0 hs ha
    exact lv_i2s hx hb hd rfl (kk ρ H locs ls _ mc_ext.rf ⟨hL, ⟨_, _, rfl, rfl, hr⟩, hW, hT⟩)
  · cases hs
theorem mc_i_dup (C : mc_Cx p s m args meth c D A y) (hat : mc_At D s A y.2.2.1 (pc, L, st, h, c0, n0) ρ H locs ls st') (hd : decode y.2.1 pc = .ok (.dup, 1)) (hs : mc_stepI (.dup) (pc + 1) a b iv lv sw vs L st h c0 n0 = some (.inl alts)) (ha : mc_alt alts = some S') (kk : mc_Kn p l e R s m args below meth c Q D A y.2.2.1 ρ S') : W p l e R s m args below meth c H locs c0 n0 Q (F0 m pc ls st') := by
  obtain ⟨hx, hb, hml, hown, hts, hNW, hnm, hK, hA⟩ := C
  obtain ⟨hL, hst, hW, hT⟩ := hat
  dsimp only [mc_stepI] at hs
  split at hs
  · obtain ⟨_, _, rfl, rfl, hr⟩ := hst
    obtain rfl := mc_alt0 hs ha
    exact lv_dup hx hb hd rfl (kk ρ H locs ls _ mc_ext.rf ⟨hL, ⟨_, _, rfl, rfl, ⟨_, _, rfl, rfl, hr⟩⟩, hW, hT⟩)
  · obtain ⟨_, _, rfl, ⟨q, hq, rfl⟩, hr⟩ := hst
    obtain rfl := mc_alt0 hs ha
    exact lv_dup hx hb hd rfl (kk ρ H locs ls _ mc_ext.rf ⟨hL, ⟨_, _, rfl, ⟨q, hq, rfl⟩, ⟨_, _, rfl, ⟨q, hq, rfl⟩, hr⟩⟩, hW, hT⟩)
  · cases hs
theorem mc_i_dup2 (C : mc_Cx p s m args meth c D A y) (hat : mc_At D s A y.2.2.1 (pc, L, st, h, c0, n0) ρ H locs ls st') (hd : decode y.2.1 pc = .ok (.dup2, 1)) (hs : mc_stepI (.dup2) (pc + 1) a b iv lv sw vs L st h c0 n0 = some (.inl alts)) (ha : mc_alt alts = some S') (kk : mc_Kn p l e R s m args below meth c Q D A y.2.2.1 ρ S') : W p l e R s m args below meth c H locs c0 n0 Q (F0 m pc ls st') := by
  obtain ⟨hx, hb, hml, hown, hts, hNW, hnm, hK, hA⟩ := C
  obtain ⟨hL, hst, hW, hT⟩ := hat
  dsimp only [mc_stepI] at hs
  split at hs
  · obtain ⟨_, _, rfl, rfl, _, _, rfl, ⟨q, hq, rfl⟩, hr⟩ := hst
    obtain rfl := mc_alt0 hs ha
    exact lv_dup2_11 hx hb hd rfl rfl (kk ρ H locs ls _ mc_ext.rf ⟨hL, ⟨_, _, rfl, rfl, ⟨_, _, rfl, ⟨q, hq, rfl⟩, ⟨_, _, rfl, rfl, ⟨_, _, rfl, ⟨q, hq, rfl⟩, hr⟩⟩⟩⟩, hW, hT⟩)
  · obtain ⟨_, _, rfl, rfl, hr⟩ := hst
    obtain rfl := mc_alt0 hs ha
    exact lv_dup2_2 hx hb hd rfl (kk ρ H locs ls _ mc_ext.rf ⟨hL, ⟨_, _, rfl, rfl, ⟨_, _, rfl, rfl, hr⟩⟩, hW, hT⟩)
  · cases hs
theorem mc_i_pop (C : mc_Cx p s m args meth c D A y) (hat : mc_At D s A y.2.2.1 (pc, L, st, h, c0, n0) ρ H locs ls st') (hd : decode y.2.1 pc = .ok (.pop, 1)) (hs : mc_stepI (.pop) (pc + 1) a b iv lv sw vs L st h c0 n0 = some (.inl alts)) (ha : mc_alt alts = some S') (kk : mc_Kn p l e R s m args below meth c Q D A y.2.2.1 ρ S') : W p l e R s m args below meth c H locs c0 n0 Q (F0 m pc ls st') := by
  obtain ⟨hx, hb, hml, hown, hts, hNW, hnm, hK, hA⟩ := C
  obtain ⟨hL, hst, hW, hT⟩ := hat
  dsimp only [mc_stepI] at hs
  split at hs
  · obtain ⟨_, _, rfl, rfl, hr⟩ := hst
    obtain rfl := mc_alt0 hs ha
    exact lv_pop hx hb hd rfl (kk ρ H locs ls _ mc_ext.rf ⟨hL, hr, hW, hT⟩)
  · cases hs
theorem mc_i_pop2 (C : mc_Cx p s m args meth c D A y) (hat : mc_At D s A y.2.2.1 (pc, L, st, h, c0, n0) ρ H locs ls st') (hd : decode y.2.1 pc = .ok (.pop2, 1)) (hs : mc_stepI (.pop2) (pc + 1) a b iv lv sw vs L st h c0 n0 = some (.inl alts)) (ha : mc_alt alts = some S') (kk : mc_Kn p l e R s m args below meth c Q D A y.2.2.1 ρ S') : W p l e R s m args below meth c H locs c0 n0 Q (F0 m pc ls st') := by
  obtain ⟨hx, hb, hml, hown, hts, hNW, hnm, hK, hA⟩ := C
  obtain ⟨hL, hst, hW, hT⟩ := hat
  dsimp only [mc_stepI] at hs
  split at hs
  · obtain ⟨_, _, rfl, rfl, hr⟩ := hst
    obtain rfl := mc_alt0 hs ha
    exact lv_pop2_2 hx hb hd rfl (kk ρ H locs ls _ mc_ext.rf ⟨hL, hr, hW, hT⟩)
  · cases hs
theorem mc_i_goto (C : mc_Cx p s m args meth c D A y) (hat : mc_At D s A y.2.2.1 (pc, L, st, h, c0, n0) ρ H locs ls st') {off : Int} (ht : (pc : Int) + off = (a : Int)) (hd : decode y.2.1 pc = .ok (.goto off, 3)) (hs : mc_stepI (.goto off) (pc + 3) a b iv lv sw vs L st h c0 n0 = some (.inl alts)) (ha : mc_alt alts = some S') (kk : mc_Kn p l e R s m args below meth c Q D A y.2.2.1 ρ S') : W p l e R s m args below meth c H locs c0 n0 Q (F0 m pc ls st') := by
  obtain ⟨hx, hb, hml, hown, hts, hNW, hnm, hK, hA⟩ := C
  obtain ⟨hL, hst, hW, hT⟩ := hat
  dsimp only [mc_stepI] at hs
  obtain rfl := mc_alt0 hs ha
  exact lv_goto hx hb hd ht (kk ρ H locs ls _ mc_ext.rf ⟨hL, hst, hW, hT⟩)
theorem mc_i_ifCond (C : mc_Cx p s m args meth c D A y) (hat : mc_At D s A y.2.2.1 (pc, L, st, h, c0, n0) ρ H locs ls st') {o : Jvm.ClassFile.Cond} {off : Int} (ht : (pc : Int) + off = (a : Int)) (hd : decode y.2.1 pc = .ok (.ifCond o off, 3)) (hs : mc_stepI (.ifCond o off) (pc + 3) a b iv lv sw vs L st h c0 n0 = some (.inl alts)) (ha : mc_alt alts = some S') (kk : mc_Kn p l e R s m args below meth c Q D A y.2.2.1 ρ S') : W p l e R s m args below meth c H locs c0 n0 Q (F0 m pc ls st') := by
  obtain ⟨hx, hb, hml, hown, hts, hNW, hnm, hK, hA⟩ := C
  obtain ⟨hL, hst, hW, hT⟩ := hat
  dsimp only [mc_stepI] at hs
  split at hs
  · obtain ⟨_, _, rfl, rfl, hr⟩ := hst
    rcases mc_alt2 hs ha with ⟨hz, rfl⟩ | ⟨hz, rfl⟩
    · cases o with
      | eq => exact lv_if_eq hx hb hd ht (fun _ => kk ρ H locs ls _ mc_ext.rf ⟨hL, hr, hW, hT⟩) (fun hc => absurd (of_decide_eq_true hz) hc)
      | ne => exact lv_if_ne hx hb hd ht (fun _ => kk ρ H locs ls _ mc_ext.rf ⟨hL, hr, hW, hT⟩) (fun hc => absurd hc (of_decide_eq_true hz))
      | lt => exact lv_if_lt hx hb hd ht (fun _ => kk ρ H locs ls _ mc_ext.rf ⟨hL, hr, hW, hT⟩) (fun hc => absurd (of_decide_eq_true hz) hc)
      | ge => exact lv_if_ge hx hb hd ht (fun _ => kk ρ H locs ls _ mc_ext.rf ⟨hL, hr, hW, hT⟩) (fun hc => absurd (of_decide_eq_true hz) hc)
      | gt => exact lv_if_gt hx hb hd ht (fun _ => kk ρ H locs ls _ mc_ext.rf ⟨hL, hr, hW, hT⟩) (fun hc => absurd (of_decide_eq_true hz) hc)
      | le => exact lv_if_le hx hb hd ht (fun _ => kk ρ H locs ls _ mc_ext.rf ⟨hL, hr, hW, hT⟩) (fun hc => absurd (of_decide_eq_true hz) hc)
    · cases o with
      | eq => exact lv_if_eq hx hb hd ht (fun hc => absurd hc (of_decide_eq_false hz)) (fun _ => kk ρ H locs ls _ mc_ext.rf ⟨hL, hr, hW, hT⟩)
      | ne => exact lv_if_ne hx hb hd ht (fun hc => absurd hc (of_decide_eq_false hz)) (fun _ => kk ρ H locs ls _ mc_ext.rf ⟨hL, hr, hW, hT⟩)
      | lt => exact lv_if_lt hx hb hd ht (fun hc => absurd hc (of_decide_eq_false hz)) (fun _ => kk ρ H locs ls _ mc_ext.rf ⟨hL, hr, hW, hT⟩)
      | ge => exact lv_if_ge hx hb hd ht (fun hc => absurd hc (of_decide_eq_false hz)) (fun _ => kk ρ H locs ls _ mc_ext.rf ⟨hL, hr, hW, hT⟩)
      | gt => exact lv_if_gt hx hb hd ht (fun hc => absurd hc (of_decide_eq_false hz)) (fun _ => kk ρ H locs ls _ mc_ext.rf ⟨hL, hr, hW, hT⟩)
      | le => exact lv_if_le hx hb hd ht (fun hc => absurd hc (of_decide_eq_false hz)) (fun _ => kk ρ H locs ls _ mc_ext.rf ⟨hL, hr, hW, hT⟩)
  · cases hs
theorem mc_i_if_icmp (C : mc_Cx p s m args meth c D A y) (hat : mc_At D s A y.2.2.1 (pc, L, st, h, c0, n0) ρ H locs ls st') {o : Jvm.ClassFile.Cond} {off : Int} (ht : (pc : Int) + off = (a : Int)) (hd : decode y.2.1 pc = .ok (.if_icmp o off, 3)) (hs : mc_stepI (.if_icmp o off) (pc + 3) a b iv lv sw vs L st h c0 n0 = some (.inl alts)) (ha : mc_alt alts = some S') (kk : mc_Kn p l e R s m args below meth c Q D A y.2.2.1 ρ S') : W p l e R s m args below meth c H locs c0 n0 Q (F0 m pc ls st') := by
  obtain ⟨hx, hb, hml, hown, hts, hNW, hnm, hK, hA⟩ := C
  obtain ⟨hL, hst, hW, hT⟩ := hat
  dsimp only [mc_stepI] at hs
  split at hs
  · obtain ⟨_, _, rfl, rfl, _, _, rfl, rfl, hr⟩ := hst
    rcases mc_alt2 hs ha with ⟨hz, rfl⟩ | ⟨hz, rfl⟩
    · cases o with
      | eq => exact lv_icmp_eq hx hb hd ht (fun _ => kk ρ H locs ls _ mc_ext.rf ⟨hL, hr, hW, hT⟩) (fun hc => absurd (of_decide_eq_true hz) hc)
      | ne => exact lv_icmp_ne hx hb hd ht (fun _ => kk ρ H locs ls _ mc_ext.rf ⟨hL, hr, hW, hT⟩) (fun hc => absurd hc (of_decide_eq_true hz))
      | lt => exact lv_icmp_lt hx hb hd ht (fun _ => kk ρ H locs ls _ mc_ext.rf ⟨hL, hr, hW, hT⟩) (fun hc => absurd (of_decide_eq_true hz) hc)
      | ge => exact lv_icmp_ge hx hb hd ht (fun _ => kk ρ H locs ls _ mc_ext.rf ⟨hL, hr, hW, hT⟩) (fun hc => absurd (of_decide_eq_true hz) hc)
      | gt => exact lv_icmp_gt hx hb hd ht (fun _ => kk ρ H locs ls _ mc_ext.rf ⟨hL, hr, hW, hT⟩) (fun hc => absurd (of_decide_eq_true hz) hc)
      | le => exact lv_icmp_le hx hb hd ht (fun _ => kk ρ H locs ls _ mc_ext.rf ⟨hL, hr, hW, hT⟩) (fun hc => absurd (of_decide_eq_true hz) hc)
    · cases o with
      | eq => exact lv_icmp_eq hx hb hd ht (fun hc => absurd hc (of_decide_eq_false hz)) (fun _ => kk ρ H locs ls _ mc_ext.rf ⟨hL, hr, hW, hT⟩)
      | ne => exact lv_icmp_ne hx hb hd ht (fun hc => absurd hc (of_decide_eq_false hz)) (fun _ => kk ρ H locs ls _ mc_ext.rf ⟨hL, hr, hW, hT⟩)
      | lt => exact lv_icmp_lt hx hb hd ht (fun hc => absurd hc (of_decide_eq_false hz)) (fun _ => kk ρ H locs ls _ mc_ext.rf ⟨hL, hr, hW, hT⟩)
      | ge => exact lv_icmp_ge hx hb hd ht (fun hc => absurd hc (of_decide_eq_false hz)) (fun _ => kk ρ H locs ls _ mc_ext.rf ⟨hL, hr, hW, hT⟩)
      | gt => exact lv_icmp_gt hx hb hd ht (fun hc => absurd hc (of_decide_eq_false hz)) (fun _ => kk ρ H locs ls _ mc_ext.rf ⟨hL, hr, hW, hT⟩)
      | le => exact lv_icmp_le hx hb hd ht (fun hc => absurd hc (of_decide_eq_false hz)) (fun _ => kk ρ H locs ls _ mc_ext.rf ⟨hL, hr, hW, hT⟩)
  · cases hs
end MI
