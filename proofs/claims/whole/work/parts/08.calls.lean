theorem mc_hr.addl {s : State} {ρ ρ' : Nat → Option Nat} {h : mc_H} {ws es : va_W} {os : List va_E} (he : mc_hr s ρ h ws) (hlen : es.length = os.length) (hle : h.length + os.length ≤ 950) (hx : mc_ext ρ ρ') (hdom : ∀ k q, ρ' k = some q → k < h.length + os.length ∨ 1000 ≤ k)
    (ho : ∀ (j : Nat) (o : va_E), os[j]? = some o → ∃ (q : Nat) (e : va_E), es[j]? = some (q, e) ∧ ρ' (h.length + j) = some q ∧ mc_er s ρ' (h.length + j) o e) : mc_hr s ρ' (h ++ os) (ws ++ es) := by
  obtain ⟨h1, h2, h3, h4⟩ := he
  refine ⟨by simp [h1, hlen], by simpa using hle, fun j o hj => ?_, fun k q hk => by simpa using hdom k q hk⟩
  by_cases hjl : j < h.length
  · rw [List.getElem?_append_left hjl] at hj
    obtain ⟨q', e', g1, g2, g3⟩ := h3 j o hj
    exact ⟨q', e', by rw [List.getElem?_append_left (by omega)]; exact g1, hx _ _ g2, g3.mono hx⟩
  · rw [List.getElem?_append_right (by omega)] at hj
    obtain ⟨q', e', g1, g2, g3⟩ := ho _ _ hj
    rw [show h.length + (j - h.length) = j by omega] at g2 g3
    exact ⟨q', e', by rw [List.getElem?_append_right (by omega), h1]; exact g1, g2, g3⟩
theorem mc_pl8 (r : Nat → Nat) (f : Nat → va_E) (x : va_E) : va_pl ([] ++ (List.range 8).map r) (vr_up f ((List.range 8).map r) x) = (List.range 8).map (fun j => (r j, x)) := by
  unfold va_pl
  rw [List.nil_append, List.map_map]
  apply List.map_congr_left
  intro j hj
  show (r j, vr_up f ((List.range 8).map r) x (r j)) = (r j, x)
  rw [vr_up_in (List.mem_map.mpr ⟨j, hj, rfl⟩)]
section ML
variable {p : Program} {l : Launch} {e : Env} {R : Room} {s : State} {m : MethodId} {args : Array Value} {below : List Frame} {meth : Method} {c : Code} {Q : State → Prop} {D : va_G} {A : Nat → Prop} {y : mc_M} {pc nx a b : Nat} {iv : Int32} {lv : Int64} {sw : List (Int32 × Nat)} {vs : List Value} {L : List (Option Value)} {st : List Value} {h : mc_H} {c0 n0 : Nat} {ρ : Nat → Option Nat} {H : Heap} {locs : List Loc} {ls : Array Slot} {st' : List Value} {alts : List (Bool × mc_S)} {S' : mc_S}
set_option maxHeartbeats 4000000 in
theorem mc_i_multi (C : mc_Cx p s m args meth c D A y) (hat : mc_At D s A y.2.2.1 (pc, L, st, h, c0, n0) ρ H locs ls st') {i0 : Nat} (hw1 : Jvm.Cond.classLink y.1.cls i0 "[[I" ∈ mc_gw) (hw2 : Jvm.Cond.arrayClass .int ∈ mc_gw) (hR : S'.2.2.2.2.1 ≤ R.cells ∧ S'.2.2.2.2.2 ≤ R.slots) (hd : decode y.2.1 pc = .ok (.multianewarray i0 2, 4)) (hs : mc_stepI (.multianewarray i0 2) (pc + 4) a b iv lv sw vs L st h c0 n0 = some (.inl alts)) (ha : mc_alt alts = some S') (kk : mc_Kn p l e R s m args below meth c Q D A y.2.2.1 ρ S') : W p l e R s m args below meth c H locs c0 n0 Q (F0 m pc ls st') := by
  obtain ⟨hx, hb, hml, hown, hts, hNW, hnm, hK, hA⟩ := C
  obtain ⟨hL, hst, hW, hT⟩ := hat
  dsimp only [mc_stepI] at hs
  split at hs
  · rename_i k9 k8 r
    simp only [mc_len_eq, mc_app_eq, Nat.zero_add] at hs
    obtain ⟨hle, hs⟩ := mc_ble hs
    obtain ⟨hz, rfl⟩ := mc_alt1 hs ha
    obtain ⟨rfl, rfl⟩ := of_decide_eq_true hz
    obtain ⟨_, r1, rfl, rfl, _, r2, rfl, rfl, hr⟩ := hst
    obtain ⟨ws, hP, hD, hh, hS⟩ := hW
    obtain ⟨cy, kA, comp, hfind, hk, hkind⟩ := Cond.arrayClass_spec (hts _ hw2)
    have hAcy : ArrOfT s cy .int := fun N z => ⟨(fun q hq => by cases hq), kA, hk, comp, hkind⟩
    have hl9 : h.length + 9 ≤ 950 := by
      have : h.length ≤ 900 := hle
      omega
    refine va_mna (X := ws) (L := []) (f := fun _ => .inl (0, 0, .inl fun _ => 0)) (ty := .int) (cy := cy) (z := (9, .inl (fun _ => 0))) (N' := 8) (K' := 9) hx hb hown (by rw [show ("[" ++ (FieldType.array .int).toString) = "[[I" by decide +kernel]; exact hts _ hw1) hNW.2 (hts _ hw2) hfind hK (by rw [show va_pl [] _ = [] from rfl, List.append_nil]; exact hP) (by rw [show va_pl [] _ = [] from rfl, List.append_nil]; exact hD) hS hA (by decide) (by decide) (by decide) (by decide) (by decide) (by decide) (by decide) rfl rfl hR.1 hR.2 (fun c9 => by rw [vp_cell_i]; show ({ cls := c9, slots := Array.replicate 9 (defaultValue .int), vm := .none } : Cell) = _; rw [arrV_new]; rfl) hd ?_
    intro q rr cA H1 hinj hnl hK1 hP1 hD1 hS1
    rw [mc_pl8] at hP1 hD1
    rw [List.append_assoc] at hP1 hD1
    obtain ⟨g1, g2⟩ := hK1.2 0 (cA, .array .int) rfl
    let ρ' : Nat → Option Nat := fun k => if k = h.length then some q else if h.length < k ∧ k ≤ h.length + 8 then some (rr (k - h.length - 1)) else ρ k
    have hx' : mc_ext ρ ρ' := by
      intro k q' hk'
      have h4 := hh.2.2.2 k q' hk'
      have h4 : k < h.length ∨ 1000 ≤ k := h4
      have e1 : ¬ k = h.length := by omega
      have e2 : ¬ (h.length < k ∧ k ≤ h.length + 8) := by omega
      show (if k = h.length then some q else if h.length < k ∧ k ≤ h.length + 8 then some (rr (k - h.length - 1)) else ρ k) = some q'
      rw [if_neg e1, if_neg e2]
      exact hk'
    have e0 : ρ' h.length = some q := if_pos rfl
    have ej : ∀ j : Nat, j < 8 → ρ' (h.length + 1 + j) = some (rr j) := by
      intro j hj
      show (if h.length + 1 + j = h.length then some q else if h.length < h.length + 1 + j ∧ h.length + 1 + j ≤ h.length + 8 then some (rr (h.length + 1 + j - h.length - 1)) else ρ (h.length + 1 + j)) = some (rr j)
      rw [if_neg (by omega), if_pos (by omega), show h.length + 1 + j - h.length - 1 = j by omega]
    have hhr : mc_hr s ρ' (h ++ .inl (4, 8, .inl (fun _ => 0)) :: List.replicate 8 (.inl (0, 9, .inl (fun _ => 0)))) (ws ++ ([(q, .inl (cA, 8, .inr (.inr (.inr (.inr (fun i => if i < 8 then some (rr i) else none))))))] ++ (List.range 8).map (fun j => (rr j, .inl (cy, 9, .inl (fun _ => 0)))))) := by
      refine hh.addl (by simp) (by simpa using hl9) hx' (fun k q' hk' => ?_) (fun j o hj => ?_)
      · by_cases e1 : k = h.length
        · left
          simp
          exact e1 ▸ (by omega)
        · by_cases e2 : h.length < k ∧ k ≤ h.length + 8
          · left
            simp
            omega
          · have hk' : (if k = h.length then some q else if h.length < k ∧ k ≤ h.length + 8 then some (rr (k - h.length - 1)) else ρ k) = some q' := hk'
            rw [if_neg e1, if_neg e2] at hk'
            rcases hh.2.2.2 k q' hk' with g | g
            · left
              have g : k < h.length := g
              simp
              omega
            · exact Or.inr g
      · cases j with
        | zero =>
          simp at hj
          subst hj
          refine ⟨q, _, rfl, e0, cA, _, rfl, g1, g2, fun _ => ⟨_, rfl, fun j hj => ⟨rr j, if_pos hj, ej j hj⟩⟩, fun h9 => absurd rfl h9⟩
        | succ j =>
          have hj8 : j < 8 := by
            have := (List.getElem?_eq_some_iff.mp hj).1
            simp at this
            omega
          have ho : o = .inl (0, 9, .inl (fun _ => 0)) := by
            rw [List.getElem?_cons_succ, List.getElem?_replicate, if_pos hj8] at hj
            exact (Option.some.inj hj).symm
          subst ho
          refine ⟨rr j, .inl (cy, 9, .inl (fun _ => 0)), ?_, ?_, cy, _, rfl, hAcy, hfind, (fun h9 => by cases h9), fun _ => rfl⟩
          · rw [List.getElem?_append_right (by simp)]
            simp [hj8]
          · have := ej j hj8
            rw [show h.length + (j + 1) = h.length + 1 + j by omega]
            exact this
    exact kk ρ' H1 locs ls _ hx' ⟨hL.mono hx', ⟨_, _, rfl, ⟨q, e0, rfl⟩, hr.mono hx'⟩, ⟨_, hP1, hD1, hhr, hS1⟩, hT.mono hx'⟩
  · cases hs
end ML
