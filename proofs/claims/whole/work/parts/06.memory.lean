theorem mc_inb_vp {i : Int32} {n : Nat} (h : mc_inb i n = true) : vp_in i n := of_decide_eq_true (p := ¬ (i < 0 ∨ n ≤ i.toNatClampNeg)) h
theorem mc_K1 {D : va_G} {s : State} {cA : ClassId} {ty : FieldType} (hK : va_K D vwCl [] s) (h1 : ArrOfT s cA ty) (h2 : va_RA s cA ty) : va_K D vwCl [(cA, ty)] s := ⟨hK.1, fun k q hk => by
  have hz : k < 1 := (List.getElem?_eq_some_iff.mp hk).1
  rw [show k = 0 by omega] at hk
  cases hk
  exact ⟨h1, h2⟩⟩
theorem mc_K2 {D : va_G} {s : State} {cA cB : ClassId} {ty : FieldType} (hK : va_K D vwCl [] s) (h1 : ArrOfT s cA ty) (h2 : va_RA s cA ty) (h3 : ArrOfT s cB ty) (h4 : va_RA s cB ty) : va_K D vwCl [(cA, ty), (cB, ty)] s := (mc_K1 hK h1 h2).app (mc_K1 hK h3 h4)
theorem mc_beq {a b : Nat} {α : Type} {x : Option α} {v : α} (h : (bif Nat.beq a b then x else none) = some v) : a = b ∧ x = some v := by
  cases hc : Nat.beq a b with
  | false => rw [hc] at h; cases h
  | true => rw [hc] at h; exact ⟨Nat.eq_of_beq_eq_true hc, h⟩
theorem mc_ble {a b : Nat} {α : Type} {x : Option α} {v : α} (h : (bif Nat.ble a b then x else none) = some v) : a ≤ b ∧ x = some v := by
  cases hc : Nat.ble a b with
  | false => rw [hc] at h; cases h
  | true => rw [hc] at h; exact ⟨Nat.le_of_ble_eq_true hc, h⟩
def mc_isref : FieldType → Bool
  | .object _ => true
  | .array _ => true
  | _ => false
section MJ
variable {p : Program} {l : Launch} {e : Env} {R : Room} {s : State} {m : MethodId} {args : Array Value} {below : List Frame} {meth : Method} {c : Code} {Q : State → Prop} {D : va_G} {A : Nat → Prop} {y : mc_M} {pc nx a b : Nat} {iv : Int32} {lv : Int64} {sw : List (Int32 × Nat)} {vs : List Value} {L : List (Option Value)} {st : List Value} {h : mc_H} {c0 n0 : Nat} {ρ : Nat → Option Nat} {H : Heap} {locs : List Loc} {ls : Array Slot} {st' : List Value} {alts : List (Bool × mc_S)} {S' : mc_S}
theorem mc_i_getfield (C : mc_Cx p s m args meth c D A y) (hat : mc_At D s A y.2.2.1 (pc, L, st, h, c0, n0) ρ H locs ls st') {i0 : Nat} {Cn : String} {Tn : u_T} {Nn : Nat} (hc : vwCl[a]? = some (Cn, Tn, Nn)) (hin : ∀ w ∈ u_ws Cn Tn Nn, w ∈ mc_gw) (hbN : b < Nn) (hw : Jvm.Cond.fieldLink y.1.cls i0 (Tn b).1 (Tn b).2.1 (Tn b).2.2.1 ∈ mc_gw) (hd : decode y.2.1 pc = .ok (.getfield i0, 3)) (hs : mc_stepI (.getfield i0) (pc + 3) a b iv lv sw vs L st h c0 n0 = some (.inl alts)) (ha : mc_alt alts = some S') (kk : mc_Kn p l e R s m args below meth c Q D A y.2.2.1 ρ S') : W p l e R s m args below meth c H locs c0 n0 Q (F0 m pc ls st') := by
  obtain ⟨hx, hb, hml, hown, hts, hNW, hnm, hK, hA⟩ := C
  obtain ⟨hL, hst, hW, hT⟩ := hat
  dsimp only [mc_stepI] at hs
  split at hs
  · rename_i i r
    split at hs
    · rename_i ci fs hg
      split at hs
      · rename_i v hv
        have hs2 := mc_beq hs
        clear hs
        obtain ⟨rfl, hs⟩ := hs2
        obtain ⟨_, _, rfl, ⟨q, hq, rfl⟩, hr⟩ := hst
        obtain ⟨ws, hP, hD, hh, hS⟩ := hW
        obtain ⟨q', e', hwi, hq', fs', rfl, hfs⟩ := hh.2.2.1 i _ (by rw [← mc_get_eq]; exact hg)
        cases hq.symm.trans hq'
        obtain ⟨v', hv1, hv2⟩ := hfs.at (by rw [← mc_get_eq]; exact hv)
        obtain rfl := mc_alt0 hs ha
        exact va_get hx hb hts hin hown hK hP i hwi hc b hbN (hts _ hw) (fun _ h => h) hv1 hd (kk ρ H locs ls _ mc_ext.rf ⟨hL, ⟨_, _, rfl, hv2, hr⟩, ⟨ws, hP, hD, hh, hS⟩, hT⟩)
      · cases hs
    · cases hs
  · cases hs
theorem mc_put_core (C : mc_Cx p s m args meth c D A y) {i0 i q ci : Nat} {fs : List Value} {v v' : Value} {r r' : List Value} (hL : mc_L ρ y.2.2.1 L ls) (hq : ρ i = some q) (hvr : mc_vr ρ v v') (hr : mc_sr ρ r r') (hW : mc_W D s A ρ h H locs) (hT : mc_ST ρ A s) (hg : mc_get h i = some (.inr (ci, fs))) (hlb : b < fs.length)
    {Cn : String} {Tn : u_T} {Nn : Nat} (hc : vwCl[ci]? = some (Cn, Tn, Nn)) (hin : ∀ w ∈ u_ws Cn Tn Nn, w ∈ mc_gw) (hbN : b < Nn) (hw : Jvm.Cond.fieldLink y.1.cls i0 (Tn b).1 (Tn b).2.1 (Tn b).2.2.1 ∈ mc_gw)
    (ty0 : Nat → FieldType) (hty : ∀ k, k < Nn → parseFieldDescriptor (Tn k).2.2.1 = some (ty0 k)) (hnm0 : ∀ a, a < Nn → ∀ b, b < Nn → a ≠ b → (Tn a).2.1 ≠ (Tn b).2.1)
    (hfin : (Tn b).2.2.2 = false ∨ ((Tn b).2.2.2 = true ∧ y.1.name = "<init>" ∧ (Tn b).1 = y.1.cls)) (hn : narrow (ty0 b) v' = v') (hfit : fits (ty0 b) v' = true) (hd : decode y.2.1 pc = .ok (.putfield i0, 3))
    (kk : mc_Kn p l e R s m args below meth c Q D A y.2.2.1 ρ (pc + 3, L, r, h.set i (.inr (ci, fs.set b v)), c0, n0)) : W p l e R s m args below meth c H locs c0 n0 Q (F0 m pc ls (v' :: .ref q :: r')) := by
  obtain ⟨hx, hb, hml, hown, hts, hNW, hnm, hK, hA⟩ := C
  obtain ⟨ws, hP, hD, hh, hS⟩ := hW
  obtain ⟨q', e', hwi, hq', fs', rfl, hfs⟩ := hh.2.2.1 i _ (by rw [← mc_get_eq]; exact hg)
  cases hq.symm.trans hq'
  have hl : b < fs'.length := by rw [hfs.len]; exact hlb
  rcases hfin with hf | ⟨hf, hi1, hi2⟩
  · exact va_put hx hb hts hin ty0 hty hnm0 hown hK hP hD hS i hwi hc b hbN (hts _ hw) (fun _ h => h) hf (hty b hbN) hn hfit hl hd
      (fun H1 locs1 hP1 hD1 hS1 => kk ρ H1 locs1 ls _ mc_ext.rf ⟨hL, hr, ⟨_, hP1, hD1, hh.set hq ⟨_, rfl, hfs.set hvr⟩, hS1⟩, hT⟩)
  · exact va_putF hx hb hts hin ty0 hty hnm0 hown hK hP hD hS i hwi hc b hbN (hts _ hw) (fun _ h => h) hf (hnm.trans hi1) hi2 (hty b hbN) hn hfit hl hd
      (fun H1 locs1 hP1 hD1 hS1 => kk ρ H1 locs1 ls _ mc_ext.rf ⟨hL, hr, ⟨_, hP1, hD1, hh.set hq ⟨_, rfl, hfs.set hvr⟩, hS1⟩, hT⟩)
theorem mc_i_putfield0 (C : mc_Cx p s m args meth c D A y) (hat : mc_At D s A y.2.2.1 (pc, L, st, h, c0, n0) ρ H locs ls st') {i0 : Nat} {Cn : String} {Tn : u_T} {Nn : Nat} (hc : vwCl[a]? = some (Cn, Tn, Nn)) (hin : ∀ w ∈ u_ws Cn Tn Nn, w ∈ mc_gw) (hbN : b < Nn) (hw : Jvm.Cond.fieldLink y.1.cls i0 (Tn b).1 (Tn b).2.1 (Tn b).2.2.1 ∈ mc_gw) (ty0 : Nat → FieldType) (hty : ∀ k, k < Nn → parseFieldDescriptor (Tn k).2.2.1 = some (ty0 k)) (hnm0 : ∀ a, a < Nn → ∀ b, b < Nn → a ≠ b → (Tn a).2.1 ≠ (Tn b).2.1) (hfin : (Tn b).2.2.2 = false ∨ ((Tn b).2.2.2 = true ∧ y.1.name = "<init>" ∧ (Tn b).1 = y.1.cls)) (hkind : ty0 b = .int) {u9 : Int32} (hd : decode y.2.1 pc = .ok (.putfield i0, 3)) (hs : mc_stepI (.putfield i0) (pc + 3) a b iv lv [(u9, 0)] vs L st h c0 n0 = some (.inl alts)) (ha : mc_alt alts = some S') (kk : mc_Kn p l e R s m args below meth c Q D A y.2.2.1 ρ S') : W p l e R s m args below meth c H locs c0 n0 Q (F0 m pc ls st') := by
  obtain ⟨hL, hst, hW, hT⟩ := hat
  have hs : mc_put0 (pc + 3) a b L st h c0 n0 = some (.inl alts) := hs
  unfold mc_put0 at hs
  split at hs
  · rename_i x i r
    split at hs
    · rename_i ci fs hg
      have hs2 := mc_beq hs
      clear hs
      obtain ⟨rfl, hs⟩ := hs2
      split at hs
      · rename_i hv
        simp only [mc_set_eq] at hs
        obtain rfl := mc_alt0 hs ha
        obtain ⟨_, _, rfl, rfl, _, _, rfl, ⟨q, hq, rfl⟩, hr⟩ := hst
        have hlb : b < fs.length := by
          rw [mc_get_eq] at hv
          exact (List.getElem?_eq_some_iff.mp hv).1
        exact mc_put_core (v := .int _) C hL hq rfl hr hW hT hg hlb hc hin hbN hw ty0 hty hnm0 hfin (by rw [hkind]; rfl) (by rw [hkind]; rfl) hd kk
      · cases hs
    · cases hs
  · cases hs
theorem mc_i_putfield1 (C : mc_Cx p s m args meth c D A y) (hat : mc_At D s A y.2.2.1 (pc, L, st, h, c0, n0) ρ H locs ls st') {i0 : Nat} {Cn : String} {Tn : u_T} {Nn : Nat} (hc : vwCl[a]? = some (Cn, Tn, Nn)) (hin : ∀ w ∈ u_ws Cn Tn Nn, w ∈ mc_gw) (hbN : b < Nn) (hw : Jvm.Cond.fieldLink y.1.cls i0 (Tn b).1 (Tn b).2.1 (Tn b).2.2.1 ∈ mc_gw) (ty0 : Nat → FieldType) (hty : ∀ k, k < Nn → parseFieldDescriptor (Tn k).2.2.1 = some (ty0 k)) (hnm0 : ∀ a, a < Nn → ∀ b, b < Nn → a ≠ b → (Tn a).2.1 ≠ (Tn b).2.1) (hfin : (Tn b).2.2.2 = false ∨ ((Tn b).2.2.2 = true ∧ y.1.name = "<init>" ∧ (Tn b).1 = y.1.cls)) (hkind : ty0 b = .boolean) {u9 : Int32} (hd : decode y.2.1 pc = .ok (.putfield i0, 3)) (hs : mc_stepI (.putfield i0) (pc + 3) a b iv lv [(u9, 1)] vs L st h c0 n0 = some (.inl alts)) (ha : mc_alt alts = some S') (kk : mc_Kn p l e R s m args below meth c Q D A y.2.2.1 ρ S') : W p l e R s m args below meth c H locs c0 n0 Q (F0 m pc ls st') := by
  obtain ⟨hL, hst, hW, hT⟩ := hat
  have hs : mc_put1 (pc + 3) a b L st h c0 n0 = some (.inl alts) := hs
  unfold mc_put1 at hs
  split at hs
  · rename_i x i r
    split at hs
    · rename_i ci fs hg
      have hs2 := mc_beq hs
      clear hs
      obtain ⟨rfl, hs⟩ := hs2
      split at hs
      · rename_i hv
        simp only [mc_set_eq] at hs
        obtain ⟨hz, rfl⟩ := mc_alt1 hs ha
        obtain ⟨_, _, rfl, rfl, _, _, rfl, ⟨q, hq, rfl⟩, hr⟩ := hst
        have hlb : b < fs.length := by
          rw [mc_get_eq] at hv
          exact (List.getElem?_eq_some_iff.mp hv).1
        exact mc_put_core (v := .int _) C hL hq rfl hr hW hT hg hlb hc hin hbN hw ty0 hty hnm0 hfin (by rw [hkind]; rcases of_decide_eq_true hz with rfl | rfl <;> rfl) (by rw [hkind]; rcases of_decide_eq_true hz with rfl | rfl <;> rfl) hd kk
      · cases hs
    · cases hs
  · cases hs
theorem mc_i_putfield2 (C : mc_Cx p s m args meth c D A y) (hat : mc_At D s A y.2.2.1 (pc, L, st, h, c0, n0) ρ H locs ls st') {i0 : Nat} {Cn : String} {Tn : u_T} {Nn : Nat} (hc : vwCl[a]? = some (Cn, Tn, Nn)) (hin : ∀ w ∈ u_ws Cn Tn Nn, w ∈ mc_gw) (hbN : b < Nn) (hw : Jvm.Cond.fieldLink y.1.cls i0 (Tn b).1 (Tn b).2.1 (Tn b).2.2.1 ∈ mc_gw) (ty0 : Nat → FieldType) (hty : ∀ k, k < Nn → parseFieldDescriptor (Tn k).2.2.1 = some (ty0 k)) (hnm0 : ∀ a, a < Nn → ∀ b, b < Nn → a ≠ b → (Tn a).2.1 ≠ (Tn b).2.1) (hfin : (Tn b).2.2.2 = false ∨ ((Tn b).2.2.2 = true ∧ y.1.name = "<init>" ∧ (Tn b).1 = y.1.cls)) (hkind : ty0 b = .long) {u9 : Int32} (hd : decode y.2.1 pc = .ok (.putfield i0, 3)) (hs : mc_stepI (.putfield i0) (pc + 3) a b iv lv [(u9, 2)] vs L st h c0 n0 = some (.inl alts)) (ha : mc_alt alts = some S') (kk : mc_Kn p l e R s m args below meth c Q D A y.2.2.1 ρ S') : W p l e R s m args below meth c H locs c0 n0 Q (F0 m pc ls st') := by
  obtain ⟨hL, hst, hW, hT⟩ := hat
  have hs : mc_put2 (pc + 3) a b L st h c0 n0 = some (.inl alts) := hs
  unfold mc_put2 at hs
  split at hs
  · rename_i x i r
    split at hs
    · rename_i ci fs hg
      have hs2 := mc_beq hs
      clear hs
      obtain ⟨rfl, hs⟩ := hs2
      split at hs
      · rename_i hv
        simp only [mc_set_eq] at hs
        obtain rfl := mc_alt0 hs ha
        obtain ⟨_, _, rfl, rfl, _, _, rfl, ⟨q, hq, rfl⟩, hr⟩ := hst
        have hlb : b < fs.length := by
          rw [mc_get_eq] at hv
          exact (List.getElem?_eq_some_iff.mp hv).1
        exact mc_put_core (v := .long _) C hL hq rfl hr hW hT hg hlb hc hin hbN hw ty0 hty hnm0 hfin (by rw [hkind]; rfl) (by rw [hkind]; rfl) hd kk
      · cases hs
    · cases hs
  · cases hs
theorem mc_i_putfield3 (C : mc_Cx p s m args meth c D A y) (hat : mc_At D s A y.2.2.1 (pc, L, st, h, c0, n0) ρ H locs ls st') {i0 : Nat} {Cn : String} {Tn : u_T} {Nn : Nat} (hc : vwCl[a]? = some (Cn, Tn, Nn)) (hin : ∀ w ∈ u_ws Cn Tn Nn, w ∈ mc_gw) (hbN : b < Nn) (hw : Jvm.Cond.fieldLink y.1.cls i0 (Tn b).1 (Tn b).2.1 (Tn b).2.2.1 ∈ mc_gw) (ty0 : Nat → FieldType) (hty : ∀ k, k < Nn → parseFieldDescriptor (Tn k).2.2.1 = some (ty0 k)) (hnm0 : ∀ a, a < Nn → ∀ b, b < Nn → a ≠ b → (Tn a).2.1 ≠ (Tn b).2.1) (hfin : (Tn b).2.2.2 = false ∨ ((Tn b).2.2.2 = true ∧ y.1.name = "<init>" ∧ (Tn b).1 = y.1.cls)) (hkind : mc_isref (ty0 b) = true) {u9 : Int32} (hd : decode y.2.1 pc = .ok (.putfield i0, 3)) (hs : mc_stepI (.putfield i0) (pc + 3) a b iv lv [(u9, 3)] vs L st h c0 n0 = some (.inl alts)) (ha : mc_alt alts = some S') (kk : mc_Kn p l e R s m args below meth c Q D A y.2.2.1 ρ S') : W p l e R s m args below meth c H locs c0 n0 Q (F0 m pc ls st') := by
  obtain ⟨hL, hst, hW, hT⟩ := hat
  have hs : mc_put3 (pc + 3) a b L st h c0 n0 = some (.inl alts) := hs
  unfold mc_put3 at hs
  split at hs
  · rename_i x i r
    split at hs
    · rename_i ci fs hg
      have hs2 := mc_beq hs
      clear hs
      obtain ⟨rfl, hs⟩ := hs2
      split at hs
      · rename_i hv
        simp only [mc_set_eq] at hs
        obtain rfl := mc_alt0 hs ha
        obtain ⟨_, _, rfl, ⟨q9, hz9, rfl⟩, _, _, rfl, ⟨q, hq, rfl⟩, hr⟩ := hst
        have hlb : b < fs.length := by
          rw [mc_get_eq] at hv
          exact (List.getElem?_eq_some_iff.mp hv).1
        exact mc_put_core (v := .ref _) C hL hq ⟨_, hz9, rfl⟩ hr hW hT hg hlb hc hin hbN hw ty0 hty hnm0 hfin (by cases hq9 : ty0 b <;> rw [hq9] at hkind <;> first | (cases hkind; done) | rfl) (by cases hq9 : ty0 b <;> rw [hq9] at hkind <;> first | (cases hkind; done) | rfl) hd kk
      · cases hs
    · cases hs
  · cases hs
theorem mc_i_getstatic (C : mc_Cx p s m args meth c D A y) (hat : mc_At D s A y.2.2.1 (pc, L, st, h, c0, n0) ρ H locs ls st') {i0 k : Nat} {nm : String × String} {t : List Int32} (hak : a = 1000 + k) (hk1 : mc_tabs[k]? = some t) (hk2 : mc_sd[k]? = some nm) (hw : Jvm.Cond.fieldLink y.1.cls i0 nm.1 nm.2 "[I" ∈ mc_gw ∨ ∃ host, Jvm.Cond.fieldLinkNest y.1.cls i0 nm.1 nm.2 "[I" host ∈ mc_nw) (hd : decode y.2.1 pc = .ok (.getstatic i0, 3)) (hs : mc_stepI (.getstatic i0) (pc + 3) a b iv lv sw vs L st h c0 n0 = some (.inl alts)) (ha : mc_alt alts = some S') (kk : mc_Kn p l e R s m args below meth c Q D A y.2.2.1 ρ S') : W p l e R s m args below meth c H locs c0 n0 Q (F0 m pc ls st') := by
  obtain ⟨hx, hb, hml, hown, hts, hNW, hnm, hK, hA⟩ := C
  obtain ⟨hL, hst, hW, hT⟩ := hat
  dsimp only [mc_stepI] at hs
  subst hak
  obtain rfl := mc_alt0 hs ha
  obtain ⟨q, hq, hZ, -⟩ := hT k t nm hk1 hk2
  obtain ⟨ws, hP, hD, hh, hS⟩ := hW
  have kk' := kk ρ H locs ls (.ref q :: st') mc_ext.rf ⟨hL, ⟨_, _, rfl, ⟨q, hq, rfl⟩, hst⟩, ⟨ws, hP, hD, hh, hS⟩, hT⟩
  rcases hw with hw | ⟨host, hw⟩
  · exact va_gets hx hb hZ hS hown (hts _ hw) (fun _ h => h) hd kk'
  · exact va_getsN hx hb hZ hS hown (va_Nw.use rfl (hNW.1 _ hw)) (fun _ h => h) hd kk'
theorem mc_i_arraylength (C : mc_Cx p s m args meth c D A y) (hat : mc_At D s A y.2.2.1 (pc, L, st, h, c0, n0) ρ H locs ls st') (hd : decode y.2.1 pc = .ok (.arraylength, 1)) (hs : mc_stepI (.arraylength) (pc + 1) a b iv lv sw vs L st h c0 n0 = some (.inl alts)) (ha : mc_alt alts = some S') (kk : mc_Kn p l e R s m args below meth c Q D A y.2.2.1 ρ S') : W p l e R s m args below meth c H locs c0 n0 Q (F0 m pc ls st') := by
  obtain ⟨hx, hb, hml, hown, hts, hNW, hnm, hK, hA⟩ := C
  obtain ⟨hL, hst, hW, hT⟩ := hat
  dsimp only [mc_stepI] at hs
  split at hs
  · rename_i i r
    split at hs
    · rename_i t len z hg
      obtain ⟨_, _, rfl, ⟨q, hq, rfl⟩, hr⟩ := hst
      obtain ⟨ws, hP, hD, hh, hS⟩ := hW
      obtain ⟨q', e', hwi, hq', cA, z', rfl, h1, h2, -⟩ := hh.2.2.1 i _ (by rw [← mc_get_eq]; exact hg)
      cases hq.symm.trans hq'
      obtain rfl := mc_alt0 hs ha
      exact va_alen hx hb (mc_K1 hK h1 h2) hP i 0 hwi rfl rfl hd (kk ρ H locs ls _ mc_ext.rf ⟨hL, ⟨_, _, rfl, rfl, hr⟩, ⟨ws, hP, hD, hh, hS⟩, hT⟩)
    · cases hs
  · cases hs
theorem mc_i_laload (C : mc_Cx p s m args meth c D A y) (hat : mc_At D s A y.2.2.1 (pc, L, st, h, c0, n0) ρ H locs ls st') (hd : decode y.2.1 pc = .ok (.laload, 1)) (hs : mc_stepI (.laload) (pc + 1) a b iv lv sw vs L st h c0 n0 = some (.inl alts)) (ha : mc_alt alts = some S') (kk : mc_Kn p l e R s m args below meth c Q D A y.2.2.1 ρ S') : W p l e R s m args below meth c H locs c0 n0 Q (F0 m pc ls st') := by
  obtain ⟨hx, hb, hml, hown, hts, hNW, hnm, hK, hA⟩ := C
  obtain ⟨hL, hst, hW, hT⟩ := hat
  dsimp only [mc_stepI] at hs
  split at hs
  · rename_i i q r
    split at hs
    · rename_i len f hg
      obtain ⟨_, _, rfl, rfl, _, _, rfl, ⟨q', hq', rfl⟩, hr⟩ := hst
      obtain ⟨ws, hP, hD, hh, hS⟩ := hW
      obtain ⟨q'', e', hwi, hq'', cA, z', rfl, h1, h2, -, h5⟩ := hh.2.2.1 q _ (by rw [← mc_get_eq]; exact hg)
      cases hq'.symm.trans hq''
      cases h5 (by decide)
      obtain ⟨hz, rfl⟩ := mc_alt1 hs ha
      exact va_lald hx hb (mc_K1 hK h1 h2) hP q 0 hwi rfl (mc_inb_vp hz) hd (kk ρ H locs ls _ mc_ext.rf ⟨hL, ⟨_, _, rfl, rfl, hr⟩, ⟨ws, hP, hD, hh, hS⟩, hT⟩)
    · cases hs
  · cases hs
theorem mc_i_baload (C : mc_Cx p s m args meth c D A y) (hat : mc_At D s A y.2.2.1 (pc, L, st, h, c0, n0) ρ H locs ls st') (hd : decode y.2.1 pc = .ok (.baload, 1)) (hs : mc_stepI (.baload) (pc + 1) a b iv lv sw vs L st h c0 n0 = some (.inl alts)) (ha : mc_alt alts = some S') (kk : mc_Kn p l e R s m args below meth c Q D A y.2.2.1 ρ S') : W p l e R s m args below meth c H locs c0 n0 Q (F0 m pc ls st') := by
  obtain ⟨hx, hb, hml, hown, hts, hNW, hnm, hK, hA⟩ := C
  obtain ⟨hL, hst, hW, hT⟩ := hat
  dsimp only [mc_stepI] at hs
  split at hs
  · rename_i i q r
    split at hs
    · rename_i len f hg
      obtain ⟨_, _, rfl, rfl, _, _, rfl, ⟨q', hq', rfl⟩, hr⟩ := hst
      obtain ⟨ws, hP, hD, hh, hS⟩ := hW
      obtain ⟨q'', e', hwi, hq'', cA, z', rfl, h1, h2, -, h5⟩ := hh.2.2.1 q _ (by rw [← mc_get_eq]; exact hg)
      cases hq'.symm.trans hq''
      cases h5 (by decide)
      obtain ⟨hz, rfl⟩ := mc_alt1 hs ha
      exact va_bald hx hb (mc_K1 hK h1 h2) hP q 0 hwi rfl (mc_inb_vp hz) hd (kk ρ H locs ls _ mc_ext.rf ⟨hL, ⟨_, _, rfl, rfl, hr⟩, ⟨ws, hP, hD, hh, hS⟩, hT⟩)
    · cases hs
  · cases hs
theorem mc_i_saload (C : mc_Cx p s m args meth c D A y) (hat : mc_At D s A y.2.2.1 (pc, L, st, h, c0, n0) ρ H locs ls st') (hd : decode y.2.1 pc = .ok (.saload, 1)) (hs : mc_stepI (.saload) (pc + 1) a b iv lv sw vs L st h c0 n0 = some (.inl alts)) (ha : mc_alt alts = some S') (kk : mc_Kn p l e R s m args below meth c Q D A y.2.2.1 ρ S') : W p l e R s m args below meth c H locs c0 n0 Q (F0 m pc ls st') := by
  obtain ⟨hx, hb, hml, hown, hts, hNW, hnm, hK, hA⟩ := C
  obtain ⟨hL, hst, hW, hT⟩ := hat
  dsimp only [mc_stepI] at hs
  split at hs
  · rename_i i q r
    split at hs
    · rename_i len f hg
      obtain ⟨_, _, rfl, rfl, _, _, rfl, ⟨q', hq', rfl⟩, hr⟩ := hst
      obtain ⟨ws, hP, hD, hh, hS⟩ := hW
      obtain ⟨q'', e', hwi, hq'', cA, z', rfl, h1, h2, -, h5⟩ := hh.2.2.1 q _ (by rw [← mc_get_eq]; exact hg)
      cases hq'.symm.trans hq''
      cases h5 (by decide)
      obtain ⟨hz, rfl⟩ := mc_alt1 hs ha
      exact va_sald hx hb (mc_K1 hK h1 h2) hP q 0 hwi rfl (mc_inb_vp hz) hd (kk ρ H locs ls _ mc_ext.rf ⟨hL, ⟨_, _, rfl, rfl, hr⟩, ⟨ws, hP, hD, hh, hS⟩, hT⟩)
    · cases hs
  · cases hs
theorem mc_i_iaload (C : mc_Cx p s m args meth c D A y) (hat : mc_At D s A y.2.2.1 (pc, L, st, h, c0, n0) ρ H locs ls st') (hd : decode y.2.1 pc = .ok (.iaload, 1)) (hs : mc_stepI (.iaload) (pc + 1) a b iv lv sw vs L st h c0 n0 = some (.inl alts)) (ha : mc_alt alts = some S') (kk : mc_Kn p l e R s m args below meth c Q D A y.2.2.1 ρ S') : W p l e R s m args below meth c H locs c0 n0 Q (F0 m pc ls st') := by
  obtain ⟨hx, hb, hml, hown, hts, hNW, hnm, hK, hA⟩ := C
  obtain ⟨hL, hst, hW, hT⟩ := hat
  dsimp only [mc_stepI] at hs
  split at hs
  · rename_i i q r
    cases hbl : Nat.ble 1000 q with
    | true =>
      rw [hbl, cond_true] at hs
      have hbl := Nat.le_of_ble_eq_true hbl
      split at hs
      · rename_i t ht
        rw [mc_get_eq] at ht
        have hlt : q - 1000 < mc_sd.length := (List.getElem?_eq_some_iff.mp ht).1
        obtain ⟨q0, hq0, -, hT0⟩ := hT (q - 1000) t _ ht (List.getElem?_eq_getElem hlt)
        obtain ⟨_, _, rfl, rfl, _, _, rfl, ⟨q', hq', rfl⟩, hr⟩ := hst
        rw [Nat.add_sub_cancel' hbl] at hq0
        cases hq'.symm.trans hq0
        obtain ⟨hz, rfl⟩ := mc_alt1 hs ha
        obtain ⟨ws, hP, hD, hh, hS⟩ := hW
        exact va_ti hx hb hT0 hS (mc_inb_vp hz) rfl hd (kk ρ H locs ls _ mc_ext.rf ⟨hL, ⟨_, _, rfl, rfl, hr⟩, ⟨ws, hP, hD, hh, hS⟩, hT⟩)
      · cases hs
    | false =>
      rw [hbl, cond_false] at hs
      split at hs
      · rename_i len f hg
        obtain ⟨_, _, rfl, rfl, _, _, rfl, ⟨q', hq', rfl⟩, hr⟩ := hst
        obtain ⟨ws, hP, hD, hh, hS⟩ := hW
        obtain ⟨q'', e', hwi, hq'', cA, z', rfl, h1, h2, -, h5⟩ := hh.2.2.1 q _ (by rw [← mc_get_eq]; exact hg)
        cases hq'.symm.trans hq''
        cases h5 (by decide)
        obtain ⟨hz, rfl⟩ := mc_alt1 hs ha
        exact va_iald hx hb (mc_K1 hK h1 h2) hP q 0 hwi rfl (mc_inb_vp hz) hd (kk ρ H locs ls _ mc_ext.rf ⟨hL, ⟨_, _, rfl, rfl, hr⟩, ⟨ws, hP, hD, hh, hS⟩, hT⟩)
      · cases hs
  · cases hs
theorem mc_i_iastore (C : mc_Cx p s m args meth c D A y) (hat : mc_At D s A y.2.2.1 (pc, L, st, h, c0, n0) ρ H locs ls st') (hd : decode y.2.1 pc = .ok (.iastore, 1)) (hs : mc_stepI (.iastore) (pc + 1) a b iv lv sw vs L st h c0 n0 = some (.inl alts)) (ha : mc_alt alts = some S') (kk : mc_Kn p l e R s m args below meth c Q D A y.2.2.1 ρ S') : W p l e R s m args below meth c H locs c0 n0 Q (F0 m pc ls st') := by
  obtain ⟨hx, hb, hml, hown, hts, hNW, hnm, hK, hA⟩ := C
  obtain ⟨hL, hst, hW, hT⟩ := hat
  dsimp only [mc_stepI] at hs
  split at hs
  · rename_i x i q r
    split at hs
    · rename_i len f hg
      simp only [mc_set_eq] at hs
      obtain ⟨_, _, rfl, rfl, _, _, rfl, rfl, _, _, rfl, ⟨q', hq', rfl⟩, hr⟩ := hst
      obtain ⟨ws, hP, hD, hh, hS⟩ := hW
      obtain ⟨q'', e', hwi, hq'', cA, z', rfl, h1, h2, -, h5⟩ := hh.2.2.1 q _ (by rw [← mc_get_eq]; exact hg)
      cases hq'.symm.trans hq''
      cases h5 (by decide)
      obtain ⟨hz, rfl⟩ := mc_alt1 hs ha
      exact va_iast hx hb (mc_K1 hK h1 h2) hP hD hS q 0 hwi rfl (mc_inb_vp hz) hd (fun H1 locs1 hP1 hD1 hS1 => kk ρ H1 locs1 ls _ mc_ext.rf ⟨hL, hr, ⟨_, hP1, hD1, hh.set hq' ⟨cA, _, rfl, h1, h2, (fun q => by cases q), fun _ => rfl⟩, hS1⟩, hT⟩)
    · cases hs
  · cases hs
theorem mc_i_lastore (C : mc_Cx p s m args meth c D A y) (hat : mc_At D s A y.2.2.1 (pc, L, st, h, c0, n0) ρ H locs ls st') (hd : decode y.2.1 pc = .ok (.lastore, 1)) (hs : mc_stepI (.lastore) (pc + 1) a b iv lv sw vs L st h c0 n0 = some (.inl alts)) (ha : mc_alt alts = some S') (kk : mc_Kn p l e R s m args below meth c Q D A y.2.2.1 ρ S') : W p l e R s m args below meth c H locs c0 n0 Q (F0 m pc ls st') := by
  obtain ⟨hx, hb, hml, hown, hts, hNW, hnm, hK, hA⟩ := C
  obtain ⟨hL, hst, hW, hT⟩ := hat
  dsimp only [mc_stepI] at hs
  split at hs
  · rename_i x i q r
    split at hs
    · rename_i len f hg
      simp only [mc_set_eq] at hs
      obtain ⟨_, _, rfl, rfl, _, _, rfl, rfl, _, _, rfl, ⟨q', hq', rfl⟩, hr⟩ := hst
      obtain ⟨ws, hP, hD, hh, hS⟩ := hW
      obtain ⟨q'', e', hwi, hq'', cA, z', rfl, h1, h2, -, h5⟩ := hh.2.2.1 q _ (by rw [← mc_get_eq]; exact hg)
      cases hq'.symm.trans hq''
      cases h5 (by decide)
      obtain ⟨hz, rfl⟩ := mc_alt1 hs ha
      exact va_last hx hb (mc_K1 hK h1 h2) hP hD hS q 0 hwi rfl (mc_inb_vp hz) hd (fun H1 locs1 hP1 hD1 hS1 => kk ρ H1 locs1 ls _ mc_ext.rf ⟨hL, hr, ⟨_, hP1, hD1, hh.set hq' ⟨cA, _, rfl, h1, h2, (fun q => by cases q), fun _ => rfl⟩, hS1⟩, hT⟩)
    · cases hs
  · cases hs
theorem mc_i_bastore (C : mc_Cx p s m args meth c D A y) (hat : mc_At D s A y.2.2.1 (pc, L, st, h, c0, n0) ρ H locs ls st') (hd : decode y.2.1 pc = .ok (.bastore, 1)) (hs : mc_stepI (.bastore) (pc + 1) a b iv lv sw vs L st h c0 n0 = some (.inl alts)) (ha : mc_alt alts = some S') (kk : mc_Kn p l e R s m args below meth c Q D A y.2.2.1 ρ S') : W p l e R s m args below meth c H locs c0 n0 Q (F0 m pc ls st') := by
  obtain ⟨hx, hb, hml, hown, hts, hNW, hnm, hK, hA⟩ := C
  obtain ⟨hL, hst, hW, hT⟩ := hat
  dsimp only [mc_stepI] at hs
  split at hs
  · rename_i x i q r
    split at hs
    · rename_i len f hg
      simp only [mc_set_eq] at hs
      obtain ⟨_, _, rfl, rfl, _, _, rfl, rfl, _, _, rfl, ⟨q', hq', rfl⟩, hr⟩ := hst
      obtain ⟨ws, hP, hD, hh, hS⟩ := hW
      obtain ⟨q'', e', hwi, hq'', cA, z', rfl, h1, h2, -, h5⟩ := hh.2.2.1 q _ (by rw [← mc_get_eq]; exact hg)
      cases hq'.symm.trans hq''
      cases h5 (by decide)
      obtain ⟨hz, rfl⟩ := mc_alt1 hs ha
      exact va_bast hx hb (mc_K1 hK h1 h2) hP hD hS q 0 hwi rfl (mc_inb_vp hz) hd (fun H1 locs1 hP1 hD1 hS1 => kk ρ H1 locs1 ls _ mc_ext.rf ⟨hL, hr, ⟨_, hP1, hD1, hh.set hq' ⟨cA, _, rfl, h1, h2, (fun q => by cases q), fun _ => rfl⟩, hS1⟩, hT⟩)
    · cases hs
  · cases hs
theorem mc_i_sastore (C : mc_Cx p s m args meth c D A y) (hat : mc_At D s A y.2.2.1 (pc, L, st, h, c0, n0) ρ H locs ls st') (hd : decode y.2.1 pc = .ok (.sastore, 1)) (hs : mc_stepI (.sastore) (pc + 1) a b iv lv sw vs L st h c0 n0 = some (.inl alts)) (ha : mc_alt alts = some S') (kk : mc_Kn p l e R s m args below meth c Q D A y.2.2.1 ρ S') : W p l e R s m args below meth c H locs c0 n0 Q (F0 m pc ls st') := by
  obtain ⟨hx, hb, hml, hown, hts, hNW, hnm, hK, hA⟩ := C
  obtain ⟨hL, hst, hW, hT⟩ := hat
  dsimp only [mc_stepI] at hs
  split at hs
  · rename_i x i q r
    split at hs
    · rename_i len f hg
      simp only [mc_set_eq] at hs
      obtain ⟨_, _, rfl, rfl, _, _, rfl, rfl, _, _, rfl, ⟨q', hq', rfl⟩, hr⟩ := hst
      obtain ⟨ws, hP, hD, hh, hS⟩ := hW
      obtain ⟨q'', e', hwi, hq'', cA, z', rfl, h1, h2, -, h5⟩ := hh.2.2.1 q _ (by rw [← mc_get_eq]; exact hg)
      cases hq'.symm.trans hq''
      cases h5 (by decide)
      obtain ⟨hz, rfl⟩ := mc_alt1 hs ha
      exact va_sast hx hb (mc_K1 hK h1 h2) hP hD hS q 0 hwi rfl (mc_inb_vp hz) hd (fun H1 locs1 hP1 hD1 hS1 => kk ρ H1 locs1 ls _ mc_ext.rf ⟨hL, hr, ⟨_, hP1, hD1, hh.set hq' ⟨cA, _, rfl, h1, h2, (fun q => by cases q), fun _ => rfl⟩, hS1⟩, hT⟩)
    · cases hs
  · cases hs
theorem mc_i_aaload (C : mc_Cx p s m args meth c D A y) (hat : mc_At D s A y.2.2.1 (pc, L, st, h, c0, n0) ρ H locs ls st') (hd : decode y.2.1 pc = .ok (.aaload, 1)) (hs : mc_stepI (.aaload) (pc + 1) a b iv lv sw vs L st h c0 n0 = some (.inl alts)) (ha : mc_alt alts = some S') (kk : mc_Kn p l e R s m args below meth c Q D A y.2.2.1 ρ S') : W p l e R s m args below meth c H locs c0 n0 Q (F0 m pc ls st') := by
  obtain ⟨hx, hb, hml, hown, hts, hNW, hnm, hK, hA⟩ := C
  obtain ⟨hL, hst, hW, hT⟩ := hat
  dsimp only [mc_stepI] at hs
  split at hs
  · rename_i i q r
    split at hs
    · rename_i z hg
      simp only [Option.some.injEq, Sum.inl.injEq] at hs
      subst hs
      have key : ∃ j : Nat, j < 8 ∧ i = Int32.ofNat j ∧ S' = (pc + 1, L, .ref (q + 1 + j) :: r, h, c0, n0) := by
        simp only [mc_alt] at ha
        by_cases e0 : i = 0
        · subst e0
          simp only [decide_true, cond_true, Option.some.injEq] at ha
          exact ⟨0, by omega, rfl, ha.symm⟩
        · simp only [e0, decide_false, cond_false] at ha
          by_cases e1 : i = 1
          · subst e1
            simp only [decide_true, cond_true, Option.some.injEq] at ha
            exact ⟨1, by omega, rfl, ha.symm⟩
          · simp only [e1, decide_false, cond_false] at ha
            by_cases e2 : i = 2
            · subst e2
              simp only [decide_true, cond_true, Option.some.injEq] at ha
              exact ⟨2, by omega, rfl, ha.symm⟩
            · simp only [e2, decide_false, cond_false] at ha
              by_cases e3 : i = 3
              · subst e3
                simp only [decide_true, cond_true, Option.some.injEq] at ha
                exact ⟨3, by omega, rfl, ha.symm⟩
              · simp only [e3, decide_false, cond_false] at ha
                by_cases e4 : i = 4
                · subst e4
                  simp only [decide_true, cond_true, Option.some.injEq] at ha
                  exact ⟨4, by omega, rfl, ha.symm⟩
                · simp only [e4, decide_false, cond_false] at ha
                  by_cases e5 : i = 5
                  · subst e5
                    simp only [decide_true, cond_true, Option.some.injEq] at ha
                    exact ⟨5, by omega, rfl, ha.symm⟩
                  · simp only [e5, decide_false, cond_false] at ha
                    by_cases e6 : i = 6
                    · subst e6
                      simp only [decide_true, cond_true, Option.some.injEq] at ha
                      exact ⟨6, by omega, rfl, ha.symm⟩
                    · simp only [e6, decide_false, cond_false] at ha
                      by_cases e7 : i = 7
                      · subst e7
                        simp only [decide_true, cond_true, Option.some.injEq] at ha
                        exact ⟨7, by omega, rfl, ha.symm⟩
                      · simp only [e7, decide_false, cond_false] at ha
                        cases ha
      obtain ⟨j, hj, hi, rfl⟩ := key
      obtain ⟨_, _, rfl, rfl, _, _, rfl, ⟨q', hq', rfl⟩, hr⟩ := hst
      obtain ⟨ws, hP, hD, hh, hS⟩ := hW
      obtain ⟨q'', e', hwi, hq'', cA, z', rfl, h1, h2, h4, -⟩ := hh.2.2.1 q _ (by rw [← mc_get_eq]; exact hg)
      cases hq'.symm.trans hq''
      obtain ⟨f', rfl, hf'⟩ := h4 rfl
      obtain ⟨q2, g1, g2⟩ := hf' j hj
      have hij : i.toNatClampNeg = j := by rw [hi]; exact Int32.toNatClampNeg_ofNat_of_lt (by omega)
      have hin : vp_in i 8 := by
        subst hi
        exact vp_in_nI hj (by decide)
      have hlt : i.toNatClampNeg < 8 := by omega
      exact W.aald (v := .ref q2) (ty := .array .int) hx hb (hP q _ hwi) (h1 8 (fun j => va_rf (f' j))) rfl (fun q => by cases q) (by show ¬ (i < 0 ∨ (arrV _ _ _).slots.size ≤ _); rw [arrV_size]; exact hin) (by show (arrV _ _ _).slots[_]? = _; rw [arrV_read _ _ hlt, hij, g1]; rfl) rfl rfl hd (kk ρ H locs ls _ mc_ext.rf ⟨hL, ⟨_, _, rfl, ⟨q2, g2, rfl⟩, hr⟩, ⟨ws, hP, hD, hh, hS⟩, hT⟩)
    · cases hs
  · cases hs
end MJ
