set_option maxHeartbeats 4000000 in
/-- a run is a contract: also of a class that has natives -/
theorem mc_met2 {PM : Nat → mc_M} (hcls : mc_Cls) (hPM : ∀ y, (PM y).2.2.2.2.all (mc_okE PM (PM y)) = true) (hpl : ∀ y, plainFor (PM y).1 = true) (l : Launch) (D : va_G) : ∀ (d f y : Nat) (as : List Value) (h : mc_H) (R : mc_R), mc_run PM d f y as h = some R → mc_Ok l D d (PM y) as h R
  | 0, _, _, _, _, _, hr => by cases hr
  | d + 1, f, y, as, h, Rr, hr => by
    intro ρ sz
    unfold mc_run at hr
    obtain ⟨hle, hr⟩ := mc_ble hr
    refine va_MetF (cc := (PM y).2.1) (maxL := (PM y).2.2.1) (ret := (PM y).2.2.2.1) (hpl y) rfl ?_
    intro p e s m args below meth c s₁ B hml hv
    obtain ⟨As, rfl, has, hsz, ⟨ws, hP, hD0, hh⟩, hK, hNW, hST⟩ := hv
    have hts := atoms_spec (ws := mc_ws (PM y)) B.pre
    subst hsz
    have hlen : (lg_sl As).length ≤ (PM y).2.2.1 := by rw [mc_exp_len has]; exact hle
    have hl := lv_entry As (n := (PM y).2.2.1) hlen
    rw [lg_entry_eq]
    generalize (lg_sl As ++ List.replicate ((PM y).2.2.1 - (lg_sl As).length) Slot.unset).toArray = ls at hl ⊢
    have hD : va_D (mc_A ρ s.heap.size) ws := by
      refine ⟨hD0.1, fun k q hk => ?_⟩
      have hkl : k < h.length := by
        rw [← hh.1]
        exact (List.getElem?_eq_some_iff.mp hk).1
      obtain ⟨q', e', g1, g2, -⟩ := hh.2.2.1 k _ (List.getElem?_eq_getElem hkl)
      have := hk.symm.trans g1
      cases this
      exact Or.inl ⟨k, by have := hh.2.1; omega, g2⟩
    have C : mc_Cx p s m As.toArray meth c D (mc_A ρ s.heap.size) (PM y) := ⟨B.exec, B.bytes, hml, findClass_of_methodNamed B.named, fun w hw => hts w (List.mem_cons_of_mem _ hw), hNW, (name_of_methodNamed B.named B.method).1, hK, fun q hq => Or.inr hq⟩
    have hat : mc_At D s (mc_A ρ s.heap.size) (PM y).2.2.1 (0, mc_pad (PM y).2.2.1 (mc_exp as), [], h, 0, 0) ρ s.heap [] ls [] := by
      refine ⟨⟨hl.1, hl.2.1, fun i v hv => ?_⟩, rfl, ⟨ws, hP, hD, hh, va_S.rf⟩, hST⟩
      obtain ⟨w, g1, g2⟩ := mc_exp_at has 0 i v (mc_pad_at _ _ _ _ hv)
      rw [Nat.zero_add] at g2
      exact ⟨w, g1, hl.2.2 _ g2⟩
    refine mc_walk hcls C B.returns B.notSynchronized (hPM y) (fun y2 as2 h2 R2 h3 => mc_met2 hcls hPM hpl l D d f y2 as2 h2 R2 h3) ?_ ?_ Rr ⟨?_, ?_⟩ f (0, mc_pad (PM y).2.2.1 (mc_exp as), [], h, 0, 0) ρ s.heap [] ls [] hr hat ?_
    · show d + 3 ≤ d + 1 + 2
      omega
    · show 200 + 100 * d ≤ 100 + 100 * (d + 1)
      omega
    · exact Nat.le_refl _
    · exact Nat.le_refl _
    · intro ρ' v' H' locs' hx hor hW
      obtain ⟨ws', hP', hD', hh', hS'⟩ := hW
      exact ⟨fun t ht hWm => ⟨⟨ρ', v', rfl, hx, hor, ws', by rw [ht]; exact hP', hD', hh'.moved hWm.alike⟩, hS'.F ht⟩, hS'.2.2⟩
