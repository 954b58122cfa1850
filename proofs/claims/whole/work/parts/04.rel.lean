/-! The small machine's state and the machine's own. -/
theorem mc_get_eq {α : Type} : ∀ (l : List α) (i : Nat), mc_get l i = l[i]?
  | [], _ => by simp [mc_get]
  | _ :: _, 0 => by simp [mc_get]
  | _ :: r, i + 1 => by simp [mc_get, mc_get_eq r i]
theorem mc_set_eq {α β : Type} : ∀ (l : List α) (i : Nat) (v : α) (k : List α → β), mc_set l i v k = k (l.set i v)
  | [], _, _, _ => by simp [mc_set]
  | _ :: _, 0, _, _ => by simp [mc_set]
  | _ :: r, i + 1, v, k => by simp [mc_set, mc_set_eq r i v]
theorem mc_app_eq {α β : Type} : ∀ (l r : List α) (k : List α → β), mc_app l r k = k (l ++ r)
  | [], _, _ => rfl
  | _ :: l, r, k => by simp [mc_app, mc_app_eq l r]
theorem mc_len_eq {α β : Type} : ∀ (l : List α) (n : Nat) (k : Nat → β), mc_len l n k = k (n + l.length)
  | [], _, _ => rfl
  | _ :: l, n, k => by simp only [mc_len, mc_len_eq l (n + 1) k, List.length_cons]; congr 1; omega
def mc_vr (ρ : Nat → Option Nat) (v w : Value) : Prop := match v with
  | .ref k => ∃ q, ρ k = some q ∧ w = .ref q
  | v => w = v
def mc_sr (ρ : Nat → Option Nat) : List Value → List Value → Prop
  | [], w => w = []
  | v :: r, w => ∃ a b, w = a :: b ∧ mc_vr ρ v a ∧ mc_sr ρ r b
def mc_ext (ρ ρ' : Nat → Option Nat) : Prop := ∀ k q, ρ k = some q → ρ' k = some q
theorem mc_ext.rf {ρ : Nat → Option Nat} : mc_ext ρ ρ := fun _ _ h => h
theorem mc_vr.mono {ρ ρ' : Nat → Option Nat} (h : mc_ext ρ ρ') {v w : Value} (hv : mc_vr ρ v w) : mc_vr ρ' v w := by
  cases v <;> first | exact hv | (obtain ⟨q, h1, h2⟩ := hv; exact ⟨q, h _ _ h1, h2⟩)
theorem mc_sr.mono {ρ ρ' : Nat → Option Nat} (h : mc_ext ρ ρ') : ∀ {v w : List Value}, mc_sr ρ v w → mc_sr ρ' v w
  | [], _, hv => hv
  | _ :: _, _, ⟨a, b, h1, h2, h3⟩ => ⟨a, b, h1, h2.mono h, mc_sr.mono h h3⟩
theorem mc_sr.len {ρ : Nat → Option Nat} : ∀ {v w : List Value}, mc_sr ρ v w → w.length = v.length
  | [], _, hv => by rw [hv]
  | _ :: _, _, ⟨a, b, h1, _, h3⟩ => by rw [h1, List.length_cons, List.length_cons, mc_sr.len h3]
theorem mc_vr.cat {ρ : Nat → Option Nat} {v w : Value} (h : mc_vr ρ v w) : w.category = v.category := by
  cases v <;> first | (obtain ⟨q, _, rfl⟩ := h; rfl) | (cases h; rfl)
theorem mc_sr.w {ρ : Nat → Option Nat} : ∀ {v w : List Value}, mc_sr ρ v w → (w.map fun v => v.category).sum = mc_w v
  | [], _, hv => by rw [hv]; rfl
  | _ :: _, _, ⟨a, b, h1, h2, h3⟩ => by
    rw [h1, List.map_cons, List.sum_cons, mc_sr.w h3, h2.cat]
    simp [mc_w]
theorem mc_sr.at {ρ : Nat → Option Nat} : ∀ {v w : List Value} {k : Nat} {x : Value}, mc_sr ρ v w → v[k]? = some x → ∃ x', w[k]? = some x' ∧ mc_vr ρ x x'
  | [], _, _, _, _, hk => by simp at hk
  | _ :: _, _, 0, _, ⟨a, b, h1, h2, _⟩, hk => by
    simp at hk
    subst hk
    exact ⟨a, by rw [h1]; rfl, h2⟩
  | _ :: _, _, k + 1, _, ⟨a, b, h1, _, h3⟩, hk => by
    obtain ⟨x', g1, g2⟩ := mc_sr.at (k := k) h3 (by simpa using hk)
    exact ⟨x', by rw [h1]; simpa using g1, g2⟩
theorem mc_sr.set {ρ : Nat → Option Nat} {x x' : Value} (hx : mc_vr ρ x x') : ∀ {v w : List Value} {k : Nat}, mc_sr ρ v w → mc_sr ρ (v.set k x) (w.set k x')
  | [], _, _, hv => by rw [hv]; rfl
  | _ :: _, _, 0, ⟨a, b, h1, _, h3⟩ => by rw [h1]; exact ⟨x', b, rfl, hx, h3⟩
  | _ :: _, _, k + 1, ⟨a, b, h1, h2, h3⟩ => by rw [h1]; exact ⟨a, _, rfl, h2, mc_sr.set hx h3⟩
def mc_ty : Nat → FieldType
  | 0 => .int
  | 1 => .long
  | 2 => .byte
  | 3 => .short
  | _ => .array .int
/-- the cell number i and a cell of the world -/
def mc_er (s : State) (ρ : Nat → Option Nat) (i : Nat) (o e : va_E) : Prop := match o with
  | .inl (t, n, z) => ∃ (cA : ClassId) (z' : _), e = .inl (cA, n, z') ∧ ArrOfT s cA (mc_ty t) ∧ va_RA s cA (mc_ty t) ∧ (t = 4 → ∃ f', z' = .inr (.inr (.inr (.inr f'))) ∧ ∀ j, j < n → ∃ q, f' j = some q ∧ ρ (i + 1 + j) = some q) ∧ (¬ t = 4 → z' = z)
  | .inr (ci, fs) => ∃ fs', e = .inr (ci, fs') ∧ mc_sr ρ fs fs'
theorem mc_er.mono {s : State} {ρ ρ' : Nat → Option Nat} (h : mc_ext ρ ρ') {i : Nat} {o e : va_E} (he : mc_er s ρ i o e) : mc_er s ρ' i o e := by
  rcases o with ⟨t, n, z⟩ | ⟨ci, fs⟩
  · obtain ⟨cA, z', h1, h2, h3, h4, h5⟩ := he
    refine ⟨cA, z', h1, h2, h3, fun q => ?_, h5⟩
    obtain ⟨f', g1, g2⟩ := h4 q
    exact ⟨f', g1, fun j hj => (g2 j hj).elim fun q hq => ⟨q, hq.1, h _ _ hq.2⟩⟩
  · obtain ⟨fs', h1, h2⟩ := he
    exact ⟨fs', h1, h2.mono h⟩
theorem mc_er.moved {s U : State} (hvm : s.vm.Alike U.vm) {ρ : Nat → Option Nat} {i : Nat} {o e : va_E} (he : mc_er s ρ i o e) : mc_er U ρ i o e := by
  rcases o with ⟨t, n, z⟩ | ⟨ci, fs⟩
  · obtain ⟨cA, z', h1, h2, h3, h4⟩ := he
    exact ⟨cA, z', h1, arrOfT_moved hvm h2, h3.moved hvm, h4⟩
  · exact he
def mc_hr (s : State) (ρ : Nat → Option Nat) (h : mc_H) (ws : va_W) : Prop := ws.length = h.length ∧ h.length ≤ 950 ∧ (∀ (i : Nat) (o : va_E), h[i]? = some o → ∃ (q : Nat) (e : va_E), ws[i]? = some (q, e) ∧ ρ i = some q ∧ mc_er s ρ i o e) ∧ ∀ k q, ρ k = some q → k < h.length ∨ 1000 ≤ k
theorem mc_hr.moved {s U : State} (hvm : s.vm.Alike U.vm) {ρ : Nat → Option Nat} {h : mc_H} {ws : va_W} (he : mc_hr s ρ h ws) : mc_hr U ρ h ws :=
  ⟨he.1, he.2.1, fun i o ho => (he.2.2.1 i o ho).elim fun q hq => hq.elim fun e g => ⟨q, e, g.1, g.2.1, g.2.2.moved hvm⟩, he.2.2.2⟩
theorem mc_hr.set {s : State} {ρ : Nat → Option Nat} {h : mc_H} {ws : va_W} (he : mc_hr s ρ h ws) {i q : Nat} {o e : va_E} (hq : ρ i = some q) (ho : mc_er s ρ i o e) : mc_hr s ρ (h.set i o) (ws.set i (q, e)) := by
  obtain ⟨h1, h2, h3, h4⟩ := he
  refine ⟨by simp [h1], by simpa using h2, fun j o' hj => ?_, fun k q' hk => by simpa using h4 k q' hk⟩
  by_cases hij : i = j
  · subst hij
    have hl : i < h.length := by
      have := (List.getElem?_eq_some_iff.mp hj).1
      simpa using this
    rw [List.getElem?_set_self hl] at hj
    cases hj
    exact ⟨q, e, by rw [List.getElem?_set_self (by omega)], hq, ho⟩
  · rw [List.getElem?_set_ne hij] at hj
    obtain ⟨q', e', g1, g2⟩ := h3 j o' hj
    exact ⟨q', e', by rw [List.getElem?_set_ne hij]; exact g1, g2⟩
/-- one more cell -/
def mc_add (ρ : Nat → Option Nat) (k q : Nat) : Nat → Option Nat := fun j => if j = k then some q else ρ j
theorem mc_add.ext {s : State} {ρ : Nat → Option Nat} {h : mc_H} {ws : va_W} (he : mc_hr s ρ h ws) (q : Nat) : mc_ext ρ (mc_add ρ h.length q) := by
  intro k q' hk
  have h4 := he.2.2.2 k q' hk
  have h2 := he.2.1
  have : k ≠ h.length := by omega
  simp [mc_add, this, hk]
theorem mc_hr.add {s : State} {ρ : Nat → Option Nat} {h : mc_H} {ws : va_W} (he : mc_hr s ρ h ws) (hl : h.length ≤ 949) {q : Nat} {o e : va_E} (ho : mc_er s (mc_add ρ h.length q) h.length o e) : mc_hr s (mc_add ρ h.length q) (h ++ [o]) (ws ++ [(q, e)]) := by
  have hx := mc_add.ext he q
  obtain ⟨h1, h2, h3, h4⟩ := he
  refine ⟨by simp [h1], by simp; omega, fun j o' hj => ?_, fun k q' hk => ?_⟩
  · by_cases hjl : j < h.length
    · rw [List.getElem?_append_left hjl] at hj
      obtain ⟨q', e', g1, g2, g3⟩ := h3 j o' hj
      exact ⟨q', e', by rw [List.getElem?_append_left (by omega)]; exact g1, hx _ _ g2, g3.mono hx⟩
    · rw [List.getElem?_append_right (by omega)] at hj
      have hz : j - h.length < 1 := (List.getElem?_eq_some_iff.mp hj).1
      have hj2 : j = h.length := by omega
      subst hj2
      simp at hj
      subst hj
      exact ⟨q, e, by rw [List.getElem?_append_right (by omega), h1]; simp, by simp [mc_add], ho⟩
  · by_cases hk2 : k = h.length
    · left
      simp [hk2]
    · simp [mc_add, hk2] at hk
      rcases h4 k q' hk with g | g
      · left
        simp
        omega
      · exact Or.inr g
def mc_W (D : va_G) (s : State) (A : Nat → Prop) (ρ : Nat → Option Nat) (h : mc_H) (H : Heap) (locs : List Loc) : Prop := ∃ ws : va_W, va_P D vwCl ws H ∧ va_D A ws ∧ mc_hr s ρ h ws ∧ va_S A s.heap H locs
def mc_sd : List (String × String) := [("PastOnce", "AT_FIRST"), ("PastOnce", "LEAST"), ("PastOnce", "MOST"), ("PastOnce$Bodies", "ABOVE"), ("PastOnce$Bodies", "OWN")]
def mc_ST (ρ : Nat → Option Nat) (A : Nat → Prop) (s : State) : Prop := ∀ (k : Nat) (t : List Int32) (nm : String × String), mc_tabs[k]? = some t → mc_sd[k]? = some nm → ∃ q, ρ (1000 + k) = some q ∧ va_Z nm.1 nm.2 "[I" (.ref q) A s s.heap ∧ va_T .int q t.length (fun j => .int (mc_tf t j)) A s s.heap
theorem mc_ST.mono {ρ ρ' : Nat → Option Nat} (h : mc_ext ρ ρ') {A : Nat → Prop} {s : State} (hs : mc_ST ρ A s) : mc_ST ρ' A s := fun k t nm h1 h2 => (hs k t nm h1 h2).elim fun q g => ⟨q, h _ _ g.1, g.2⟩
/-- locals -/
def mc_L (ρ : Nat → Option Nat) (nL : Nat) (L : List (Option Value)) (ls : Array Slot) : Prop := ls.size = nL ∧ lv_wf ls ∧ ∀ (i : Nat) (v : Value), L[i]? = some (some v) → ∃ w, mc_vr ρ v w ∧ ls[i]? = some (.val w)
theorem mc_L.mono {ρ ρ' : Nat → Option Nat} (h : mc_ext ρ ρ') {nL : Nat} {L : List (Option Value)} {ls : Array Slot} (hL : mc_L ρ nL L ls) : mc_L ρ' nL L ls := ⟨hL.1, hL.2.1, fun i v hv => (hL.2.2 i v hv).elim fun w g => ⟨w, g.1.mono h, g.2⟩⟩
/-- the small machine's state, and where the machine is -/
def mc_At (D : va_G) (s : State) (A : Nat → Prop) (nL : Nat) (S : mc_S) (ρ : Nat → Option Nat) (H : Heap) (locs : List Loc) (ls : Array Slot) (st : List Value) : Prop := mc_L ρ nL S.2.1 ls ∧ mc_sr ρ S.2.2.1 st ∧ mc_W D s A ρ S.2.2.2.1 H locs ∧ mc_ST ρ A s
/-- the words that go into every method -/
def mc_gw : List Cond := lw_tbl.filter goodWord
theorem mc_gw_in {i : Nat} {w : Cond} (h : lw_tbl[i]? = some w) (hg : goodWord w = true) : w ∈ mc_gw := List.mem_filter.mpr ⟨List.mem_of_getElem? h, hg⟩
def mc_nw : List Cond := lw_tbl.filter (fun w => match w with
  | .fieldLinkNest _ _ _ _ _ _ => true
  | .methodLinkNest _ _ _ _ => true
  | _ => false)
def mc_NW (s : State) : Prop := (∀ w ∈ mc_nw, va_Nw w s) ∧ va_AOA .int s
theorem mc_NW.warm {s U : State} (hW : s.WarmedH U.vm) (h : mc_NW s) : mc_NW U := by
  refine ⟨fun w hw => ?_, h.2.moved hW.alike⟩
  have h1 := h.1 w hw
  have h2 := (List.mem_filter.mp hw).2
  cases w <;> first | (cases h2; done) | exact va_Nw.warmF hW h1 | exact va_Nw.warmM hW h1
def mc_Cx (p : Program) (s : State) (m : MethodId) (args : Array Value) (meth : Method) (c : Code) (D : va_G) (A : Nat → Prop) (y : mc_M) : Prop :=
  p.tables.exec = Jvm.exec ∧ c.code = y.2.1 ∧ c.maxLocals = y.2.2.1 ∧ s.vm.findClass y.1.cls = some m.cls ∧ (∀ w ∈ mc_gw, w.before args s = true) ∧ mc_NW s ∧ meth.name = y.1.name ∧ va_K D vwCl [] s ∧ ∀ q : Nat, s.heap.size ≤ q → A q
def mc_Kn (p : Program) (l : Launch) (e : Env) (R : Room) (s : State) (m : MethodId) (args : Array Value) (below : List Frame) (meth : Method) (c : Code) (Q : State → Prop) (D : va_G) (A : Nat → Prop) (nL : Nat) (ρ : Nat → Option Nat) (S : mc_S) : Prop :=
  ∀ (ρ' : Nat → Option Nat) (H : Heap) (locs : List Loc) (ls : Array Slot) (st : List Value), mc_ext ρ ρ' → mc_At D s A nL S ρ' H locs ls st → W p l e R s m args below meth c H locs S.2.2.2.2.1 S.2.2.2.2.2 Q (F0 m S.1 ls st)
