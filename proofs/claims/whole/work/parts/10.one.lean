theorem mc_and {a b : Bool} (h : (a && b) = true) : a = true ∧ b = true := (Bool.and_eq_true _ _).mp h
def mc_dc (y : mc_M) (pc : Nat) (ins : Instr) (nx k : Nat) : Bool := decide (decode y.2.1 pc = .ok (ins, k)) && Nat.beq nx (pc + k)
theorem mc_dc_spec {y : mc_M} {pc : Nat} {ins : Instr} {nx k : Nat} (h : mc_dc y pc ins nx k = true) : decode y.2.1 pc = .ok (ins, k) ∧ nx = pc + k := ⟨of_decide_eq_true (mc_and h).1, Nat.eq_of_beq_eq_true (mc_and h).2⟩
def mc_wd (ps : List Nat) (k : Nat) (w : Cond) : Bool := match mc_get ps k with
  | some i => decide (lw_tbl[i]? = some w) && goodWord w
  | none => false
theorem mc_wd_in {ps : List Nat} {k : Nat} {w : Cond} (h : mc_wd ps k w = true) : w ∈ mc_gw := by
  unfold mc_wd at h
  split at h
  · obtain ⟨h1, h2⟩ := mc_and h
    exact mc_gw_in (of_decide_eq_true h1) h2
  · cases h
def mc_nst (w : Cond) : Bool := match w with
  | .fieldLinkNest _ _ _ _ _ _ => true
  | .methodLinkNest _ _ _ _ => true
  | _ => false
def mc_nd (ps : List Nat) (k : Nat) (w : Cond) : Bool := match mc_get ps k with
  | some i => decide (lw_tbl[i]? = some w) && mc_nst w
  | none => false
theorem mc_nd_in {ps : List Nat} {k : Nat} {w : Cond} (h : mc_nd ps k w = true) : w ∈ mc_nw := by
  unfold mc_nd at h
  split at h
  · obtain ⟨h1, h2⟩ := mc_and h
    refine List.mem_filter.mpr ⟨List.mem_of_getElem? (of_decide_eq_true h1), ?_⟩
    cases w <;> first | (cases h2; done) | rfl
  · cases h
def mc_ft (T : u_T) (k : Nat) : FieldType := (parseFieldDescriptor (T k).2.2.1).getD .int
/-- what the tables say of the classes -/
def mc_Cls : Prop := ∀ (ci : Nat) (q : vw_C), vwCl[ci]? = some q → (∀ w ∈ u_ws q.1 q.2.1 q.2.2, w ∈ mc_gw) ∧ (∀ k, k < q.2.2 → parseFieldDescriptor (q.2.1 k).2.2.1 = some (mc_ft q.2.1 k)) ∧ ∀ a, a < q.2.2 → ∀ b, b < q.2.2 → a ≠ b → (q.2.1 a).2.1 ≠ (q.2.1 b).2.1
def mc_fld (y : mc_M) (a b i : Nat) (ps : List Nat) : Bool := match vwCl[a]? with
  | some (_, Tn, Nn) => decide (b < Nn) && mc_wd ps 0 (.fieldLink y.1.cls i (Tn b).1 (Tn b).2.1 (Tn b).2.2.1)
  | none => false
theorem mc_fld_spec {y : mc_M} {a b i : Nat} {ps : List Nat} (h : mc_fld y a b i ps = true) : ∃ (Cn : String) (Tn : u_T) (Nn : Nat), vwCl[a]? = some (Cn, Tn, Nn) ∧ b < Nn ∧ Jvm.Cond.fieldLink y.1.cls i (Tn b).1 (Tn b).2.1 (Tn b).2.2.1 ∈ mc_gw := by
  unfold mc_fld at h
  split at h
  · rename_i Cn Tn Nn hc
    obtain ⟨h1, h2⟩ := mc_and h
    exact ⟨Cn, Tn, Nn, hc, of_decide_eq_true h1, mc_wd_in h2⟩
  · cases h
def mc_fldk (ty : FieldType) (k : Nat) : Bool := match k with
  | 0 => decide (ty = .int)
  | 1 => decide (ty = .boolean)
  | 2 => decide (ty = .long)
  | 3 => mc_isref ty
  | _ => false
def mc_fldp (y : mc_M) (a b : Nat) (sw : List (Int32 × Nat)) : Bool := match vwCl[a]?, sw with
  | some (_, Tn, _), [(_, k)] => (!(Tn b).2.2.2 || (decide (y.1.name = "<init>") && decide ((Tn b).1 = y.1.cls))) && mc_fldk (mc_ft Tn b) k
  | _, _ => false
theorem mc_fldp_spec {y : mc_M} {a b : Nat} {sw : List (Int32 × Nat)} {Cn : String} {Tn : u_T} {Nn : Nat} (hc : vwCl[a]? = some (Cn, Tn, Nn)) (h : mc_fldp y a b sw = true) : ∃ u9 : Int32, ((Tn b).2.2.2 = false ∨ ((Tn b).2.2.2 = true ∧ y.1.name = "<init>" ∧ (Tn b).1 = y.1.cls)) ∧ ((sw = [(u9, 0)] ∧ mc_ft Tn b = .int) ∨ (sw = [(u9, 1)] ∧ mc_ft Tn b = .boolean) ∨ (sw = [(u9, 2)] ∧ mc_ft Tn b = .long) ∨ (sw = [(u9, 3)] ∧ mc_isref (mc_ft Tn b) = true)) := by
  unfold mc_fldp at h
  rw [hc] at h
  split at h
  · rename_i C2 T2 N2 u9 k heq
    cases heq
    obtain ⟨h1, h2⟩ := mc_and h
    refine ⟨u9, ?_, ?_⟩
    · cases hf : (Tn b).2.2.2 with
      | false => exact Or.inl rfl
      | true =>
        rw [hf] at h1
        obtain ⟨h3, h4⟩ := mc_and h1
        exact Or.inr ⟨rfl, of_decide_eq_true h3, of_decide_eq_true h4⟩
    · match k, h2 with
      | 0, h2 => exact Or.inl ⟨rfl, of_decide_eq_true h2⟩
      | 1, h2 => exact Or.inr (Or.inl ⟨rfl, of_decide_eq_true h2⟩)
      | 2, h2 => exact Or.inr (Or.inr (Or.inl ⟨rfl, of_decide_eq_true h2⟩))
      | 3, h2 => exact Or.inr (Or.inr (Or.inr ⟨rfl, h2⟩))
      | k + 4, h2 => cases h2
  · cases h
def mc_sta (y : mc_M) (a i : Nat) (ps : List Nat) : Bool := Nat.ble 1000 a && (match mc_tabs[a - 1000]?, mc_sd[a - 1000]? with
  | some _, some nm => mc_wd ps 0 (.fieldLink y.1.cls i nm.1 nm.2 "[I") || mc_nd ps 0 (.fieldLinkNest y.1.cls i nm.1 nm.2 "[I" "PastOnce")
  | _, _ => false)
theorem mc_sta_spec {y : mc_M} {a i : Nat} {ps : List Nat} (h : mc_sta y a i ps = true) : ∃ (k : Nat) (nm : String × String) (t : List Int32), a = 1000 + k ∧ mc_tabs[k]? = some t ∧ mc_sd[k]? = some nm ∧ (Jvm.Cond.fieldLink y.1.cls i nm.1 nm.2 "[I" ∈ mc_gw ∨ ∃ host, Jvm.Cond.fieldLinkNest y.1.cls i nm.1 nm.2 "[I" host ∈ mc_nw) := by
  obtain ⟨h0, h⟩ := mc_and h
  have h0 := Nat.le_of_ble_eq_true h0
  split at h
  · rename_i t nm ht hn
    refine ⟨a - 1000, nm, t, by omega, ht, hn, ?_⟩
    rcases (Bool.or_eq_true _ _).mp h with h | h
    · exact Or.inl (mc_wd_in h)
    · exact Or.inr ⟨_, mc_nd_in h⟩
  · cases h
def mc_tswj (pc : Nat) (lo : Int) (offs : Array Int) (sw : List (Int32 × Nat)) (j : Nat) : Bool := match sw[j]?, offs[j]? with
  | some (v, t), some o => decide (v.toInt = lo + (j : Int)) && decide ((pc : Int) + o = (t : Int))
  | none, _ => true
  | _, _ => false
def mc_tsw (pc b : Nat) (df lo hi : Int) (offs : Array Int) (sw : List (Int32 × Nat)) : Bool := decide ((pc : Int) + df = (b : Int)) && (decide (hi = lo + (offs.size : Int) - 1) && (decide (sw.length = offs.size) && (List.range sw.length).all (mc_tswj pc lo offs sw)))
theorem mc_tsw_spec {pc b : Nat} {df lo hi : Int} {offs : Array Int} {sw : List (Int32 × Nat)} (h : mc_tsw pc b df lo hi offs sw = true) : (pc : Int) + df = (b : Int) ∧ hi = lo + (offs.size : Int) - 1 ∧ sw.length = offs.size ∧ ∀ (j : Nat) (v : Int32) (t : Nat), sw[j]? = some (v, t) → v.toInt = lo + (j : Int) ∧ ∃ o, offs[j]? = some o ∧ (pc : Int) + o = (t : Int) := by
  obtain ⟨h1, h⟩ := mc_and h
  obtain ⟨h2, h⟩ := mc_and h
  obtain ⟨h3, h4⟩ := mc_and h
  refine ⟨of_decide_eq_true h1, of_decide_eq_true h2, of_decide_eq_true h3, fun j v t hj => ?_⟩
  have hl : j < sw.length := (List.getElem?_eq_some_iff.mp hj).1
  have h5 := List.all_eq_true.mp h4 j (List.mem_range.mpr hl)
  unfold mc_tswj at h5
  rw [hj] at h5
  split at h5
  · rename_i v' t' o' e1 e2
    cases e1
    obtain ⟨h6, h7⟩ := mc_and h5
    exact ⟨of_decide_eq_true h6, o', e2, of_decide_eq_true h7⟩
  · rename_i e1
    cases e1
  · cases h5
def mc_lswj (pc : Nat) : List (Int × Int) → List (Int32 × Nat) → Bool
  | [], [] => true
  | (k, o) :: r, (v, t) :: r' => decide (v.toInt = k) && (decide ((pc : Int) + o = (t : Int)) && (r'.all (fun q => decide (¬ q.1 = v)) && mc_lswj pc r r'))
  | _, _ => false
def mc_lsw (pc b : Nat) (df : Int) (prs : Array (Int × Int)) (sw : List (Int32 × Nat)) : Bool := decide ((pc : Int) + df = (b : Int)) && ((prs.toList.zip (prs.toList.drop 1)).all (fun (a, next) => a.1 < next.1) && mc_lswj pc prs.toList sw)
theorem mc_lswj_spec {pc : Nat} {df : Int} (x : Int32) : ∀ {prs : List (Int × Int)} {sw : List (Int32 × Nat)}, mc_lswj pc prs sw = true → (∀ (j t : Nat), sw[j]? = some (x, t) → ∃ off, Op.lookupswitch.offset prs df x.toInt = off ∧ (pc : Int) + off = (t : Int)) ∧ ((∀ (j : Nat) (v : Int32) (t : Nat), sw[j]? = some (v, t) → x ≠ v) → Op.lookupswitch.offset prs df x.toInt = df)
  | [], [], _ => ⟨fun j t h => by simp at h, fun _ => rfl⟩
  | [], _ :: _, h => by cases h
  | _ :: _, [], h => by cases h
  | (k, o) :: r, (v, t0) :: r', h => by
    obtain ⟨h1, h⟩ := mc_and h
    obtain ⟨h2, h⟩ := mc_and h
    obtain ⟨h3, h4⟩ := mc_and h
    have h1 := of_decide_eq_true h1
    have h2 := of_decide_eq_true h2
    obtain ⟨g1, g2⟩ := mc_lswj_spec (df := df) x h4
    by_cases hx : x = v
    · subst hx
      have e : Op.lookupswitch.offset ((k, o) :: r) df x.toInt = o := by rw [Op.lookupswitch.offset_cons, if_pos h1.symm]
      refine ⟨fun j t hj => ⟨o, e, ?_⟩, fun h9 => absurd rfl (h9 0 x t0 rfl)⟩
      cases j with
      | zero =>
        simp at hj
        rw [← hj]
        exact h2
      | succ j =>
        exfalso
        have hm := List.mem_of_getElem? (show r'[j]? = some (x, t) by simpa using hj)
        exact of_decide_eq_true (List.all_eq_true.mp h3 _ hm) rfl
    · have e : Op.lookupswitch.offset ((k, o) :: r) df x.toInt = Op.lookupswitch.offset r df x.toInt := lv_osw hx h1
      rw [e]
      refine ⟨fun j t hj => ?_, fun h9 => g2 (fun j v' t' hj => h9 (j + 1) v' t' (by simpa using hj))⟩
      cases j with
      | zero =>
        simp at hj
        exact absurd hj.1.symm hx
      | succ j => exact g1 j t (by simpa using hj)
theorem mc_lsw_spec {pc b : Nat} {df : Int} {prs : Array (Int × Int)} {sw : List (Int32 × Nat)} (h : mc_lsw pc b df prs sw = true) : (pc : Int) + df = (b : Int) ∧ (prs.toList.zip (prs.toList.drop 1)).all (fun (a, next) => a.1 < next.1) = true ∧ ∀ x : Int32, (∀ (j t : Nat), sw[j]? = some (x, t) → ∃ off, Op.lookupswitch.offset prs.toList df x.toInt = off ∧ (pc : Int) + off = (t : Int)) ∧ ((∀ (j : Nat) (v : Int32) (t : Nat), sw[j]? = some (v, t) → x ≠ v) → Op.lookupswitch.offset prs.toList df x.toInt = df) := by
  obtain ⟨h1, h⟩ := mc_and h
  obtain ⟨h2, h3⟩ := mc_and h
  exact ⟨of_decide_eq_true h1, h2, fun x => mc_lswj_spec x h3⟩
def mc_noref : Value → Bool
  | .ref _ => false
  | _ => true
def mc_newb (y : mc_M) (a b i : Nat) (vs : List Value) (ps : List Nat) : Bool := match vwCl[a]? with
  | some (Cn, Tn, Nn) => Nat.beq b Nn && (mc_wd ps 0 (.classLink y.1.cls i Cn) && (mc_wd ps 1 (.instantiable Cn Nn) && (mc_wd ps 2 (.initialized Cn) && (vs.all mc_noref && (List.range Nn).all (fun j => decide (defaultValue (mc_ft Tn j) = vp_V vs j))))))
  | none => false
theorem mc_newb_spec {y : mc_M} {a b i : Nat} {vs : List Value} {ps : List Nat} (h : mc_newb y a b i vs ps = true) : ∃ (Cn : String) (Tn : u_T) (Nn : Nat), vwCl[a]? = some (Cn, Tn, Nn) ∧ b = Nn ∧ Jvm.Cond.classLink y.1.cls i Cn ∈ mc_gw ∧ Jvm.Cond.instantiable Cn Nn ∈ mc_gw ∧ Jvm.Cond.initialized Cn ∈ mc_gw ∧ (∀ x ∈ vs, ∀ k, x ≠ .ref k) ∧ ∀ j, j < Nn → defaultValue (mc_ft Tn j) = vp_V vs j := by
  unfold mc_newb at h
  split at h
  · rename_i Cn Tn Nn hc
    obtain ⟨h1, h⟩ := mc_and h
    obtain ⟨h2, h⟩ := mc_and h
    obtain ⟨h3, h⟩ := mc_and h
    obtain ⟨h4, h⟩ := mc_and h
    obtain ⟨h5, h6⟩ := mc_and h
    refine ⟨Cn, Tn, Nn, hc, Nat.eq_of_beq_eq_true h1, mc_wd_in h2, mc_wd_in h3, mc_wd_in h4, fun x hx k hk => ?_, fun j hj => of_decide_eq_true (List.all_eq_true.mp h6 j (List.mem_range.mpr hj))⟩
    have h7 := List.all_eq_true.mp h5 x hx
    rw [hk] at h7
    cases h7
  · cases h
def mc_arr (t : ArrayType) (a : Nat) (ps : List Nat) : Bool := match t with
  | .int => Nat.beq a 0 && mc_wd ps 0 (.arrayClass .int)
  | .long => Nat.beq a 1 && mc_wd ps 0 (.arrayClass .long)
  | .byte => Nat.beq a 2 && mc_wd ps 0 (.arrayClass .byte)
  | .short => Nat.beq a 3 && mc_wd ps 0 (.arrayClass .short)
  | _ => false
theorem mc_arr_spec {t : ArrayType} {a : Nat} {ps : List Nat} (h : mc_arr t a ps = true) : (t = .int ∧ a = 0 ∧ Jvm.Cond.arrayClass .int ∈ mc_gw) ∨ (t = .long ∧ a = 1 ∧ Jvm.Cond.arrayClass .long ∈ mc_gw) ∨ (t = .byte ∧ a = 2 ∧ Jvm.Cond.arrayClass .byte ∈ mc_gw) ∨ (t = .short ∧ a = 3 ∧ Jvm.Cond.arrayClass .short ∈ mc_gw) := by
  cases t <;> first | (cases h; done) | (obtain ⟨h1, h2⟩ := mc_and h; have h1 := Nat.eq_of_beq_eq_true h1; have h2 := mc_wd_in h2; simp_all; done)
def mc_calb (y2 : mc_M) (n : Nat) (ps : List Nat) (k : Nat) : Bool := (decide (y2.1.cls ≠ "java/lang/invoke/MethodHandle") && (decide (y2.1.cls ≠ "java/lang/invoke/VarHandle") && decide ((parseMethodDescriptor y2.1.desc).map (fun d => d.parameters.length) = some n))) && (Nat.ble y2.2.2.1 60 && (mc_wd ps k (.code y2.1 y2.2.1 y2.2.2.1 y2.2.2.2.1) && mc_wd ps (k + 1) (.initialized y2.1.cls)))
theorem mc_calb_spec {y2 : mc_M} {n : Nat} {ps : List Nat} {k : Nat} (h : mc_calb y2 n ps k = true) : mc_cal y2 n := by
  obtain ⟨h1, h2⟩ := mc_and h
  obtain ⟨h3, h4⟩ := mc_and h1
  obtain ⟨h5, h6⟩ := mc_and h4
  obtain ⟨h7, h8⟩ := mc_and h2
  obtain ⟨h9, h10⟩ := mc_and h8
  exact ⟨⟨of_decide_eq_true h3, of_decide_eq_true h5, of_decide_eq_true h6⟩, Nat.le_of_ble_eq_true h7, mc_wd_in h9, mc_wd_in h10⟩
def mc_vrt (PM : Nat → mc_M) (y : mc_M) (a b i : Nat) (sw : List (Int32 × Nat)) (ps : List Nat) : Bool := match sw with
  | [(_, k)] => (match vwCl[k]? with
    | some q => decide (q.1 = (PM a).1.cls) && (mc_wd ps 0 (.methodLink y.1.cls i (PM a).1) && (mc_wd ps 1 (.instanceMethod (PM a).1) && (mc_wd ps 2 (.selects (PM a).1.cls (PM a).1 (PM a).1) && mc_calb (PM a) (b - 1) ps 3)))
    | none => false)
  | _ => false
def mc_stc (PM : Nat → mc_M) (y : mc_M) (a b i : Nat) (ps : List Nat) : Bool := mc_wd ps 0 (.methodLink y.1.cls i (PM a).1) && (mc_wd ps 1 (.static (PM a).1) && mc_calb (PM a) b ps 2)
def mc_spc (PM : Nat → mc_M) (y : mc_M) (a b i : Nat) (ps : List Nat) : Bool := (mc_wd ps 0 (.methodLink y.1.cls i (PM a).1) || mc_nd ps 0 (.methodLinkNest y.1.cls i (PM a).1 "PastOnce")) && (mc_wd ps 1 (.instanceMethod (PM a).1) && (mc_calb (PM a) (b - 1) ps 2 && (decide ((PM a).1.name = "<init>") && decide ((PM a).2.2.2.1 = none))))
def mc_arf : Option FieldType → Bool
  | some (.array _) => true
  | some (.object _) => true
  | _ => false
def mc_okI (PM : Nat → mc_M) (y : mc_M) (pc : Nat) (ins : Instr) (nx a b : Nat) (iv : Int32) (lv : Int64) (sw : List (Int32 × Nat)) (vs : List Value) (ps : List Nat) : Bool := match ins with
  | .iadd => mc_dc y pc (.iadd) nx 1
  | .isub => mc_dc y pc (.isub) nx 1
  | .imul => mc_dc y pc (.imul) nx 1
  | .iand => mc_dc y pc (.iand) nx 1
  | .ior => mc_dc y pc (.ior) nx 1
  | .ixor => mc_dc y pc (.ixor) nx 1
  | .ishl => mc_dc y pc (.ishl) nx 1
  | .ishr => mc_dc y pc (.ishr) nx 1
  | .iushr => mc_dc y pc (.iushr) nx 1
  | .idiv => mc_dc y pc (.idiv) nx 1
  | .irem => mc_dc y pc (.irem) nx 1
  | .ladd => mc_dc y pc (.ladd) nx 1
  | .lmul => mc_dc y pc (.lmul) nx 1
  | .land => mc_dc y pc (.land) nx 1
  | .lor => mc_dc y pc (.lor) nx 1
  | .ldiv => mc_dc y pc (.ldiv) nx 1
  | .lrem => mc_dc y pc (.lrem) nx 1
  | .lcmp => mc_dc y pc (.lcmp) nx 1
  | .lshl => mc_dc y pc (.lshl) nx 1
  | .lushr => mc_dc y pc (.lushr) nx 1
  | .ineg => mc_dc y pc (.ineg) nx 1
  | .i2l => mc_dc y pc (.i2l) nx 1
  | .l2i => mc_dc y pc (.l2i) nx 1
  | .i2b => mc_dc y pc (.i2b) nx 1
  | .i2s => mc_dc y pc (.i2s) nx 1
  | .dup => mc_dc y pc (.dup) nx 1
  | .dup2 => mc_dc y pc (.dup2) nx 1
  | .pop => mc_dc y pc (.pop) nx 1
  | .pop2 => mc_dc y pc (.pop2) nx 1
  | .arraylength => mc_dc y pc (.arraylength) nx 1
  | .iaload => mc_dc y pc (.iaload) nx 1
  | .laload => mc_dc y pc (.laload) nx 1
  | .baload => mc_dc y pc (.baload) nx 1
  | .saload => mc_dc y pc (.saload) nx 1
  | .iastore => mc_dc y pc (.iastore) nx 1
  | .lastore => mc_dc y pc (.lastore) nx 1
  | .bastore => mc_dc y pc (.bastore) nx 1
  | .sastore => mc_dc y pc (.sastore) nx 1
  | .aaload => mc_dc y pc (.aaload) nx 1
  | .iconst i => mc_dc y pc (.iconst i) nx 1 && decide (Int32.ofInt i = iv)
  | .bipush i => mc_dc y pc (.bipush i) nx 2 && decide ((Int8.ofInt i).toInt32 = iv)
  | .sipush i => mc_dc y pc (.sipush i) nx 3 && decide ((Int16.ofInt i).toInt32 = iv)
  | .lconst i => mc_dc y pc (.lconst i) nx 1 && decide (Int64.ofNat i.val = lv)
  | .ldc i => mc_dc y pc (.ldc i) nx 2 && mc_wd ps 0 (.constant y.1.cls i iv)
  | .ldc_w i => mc_dc y pc (.ldc_w i) nx 3 && mc_wd ps 0 (.constant y.1.cls i iv)
  | .ldc2_w i => mc_dc y pc (.ldc2_w i) nx 3 && mc_wd ps 0 (.constantLong y.1.cls i lv)
  | .iload_n i => mc_dc y pc (.iload_n i) nx 1 && Nat.beq i.val a
  | .iload i => mc_dc y pc (.iload i) nx 2 && Nat.beq i a
  | .lload_n i => mc_dc y pc (.lload_n i) nx 1 && Nat.beq i.val a
  | .lload i => mc_dc y pc (.lload i) nx 2 && Nat.beq i a
  | .aload_n i => mc_dc y pc (.aload_n i) nx 1 && Nat.beq i.val a
  | .aload i => mc_dc y pc (.aload i) nx 2 && Nat.beq i a
  | .istore_n i => mc_dc y pc (.istore_n i) nx 1 && (Nat.beq i.val a && decide (a < y.2.2.1))
  | .astore_n i => mc_dc y pc (.astore_n i) nx 1 && (Nat.beq i.val a && decide (a < y.2.2.1))
  | .istore i => mc_dc y pc (.istore i) nx 2 && (Nat.beq i a && decide (a < y.2.2.1))
  | .lstore_n i => mc_dc y pc (.lstore_n i) nx 1 && (Nat.beq i.val a && decide (a + 1 < y.2.2.1))
  | .lstore i => mc_dc y pc (.lstore i) nx 2 && (Nat.beq i a && decide (a + 1 < y.2.2.1))
  | .iinc i k => mc_dc y pc (.iinc i k) nx 3 && (Nat.beq i a && (decide (Int32.ofInt k = iv) && decide (a < y.2.2.1)))
  | .goto off => mc_dc y pc (.goto off) nx 3 && decide ((pc : Int) + off = (a : Int))
  | .ifCond o off => mc_dc y pc (.ifCond o off) nx 3 && decide ((pc : Int) + off = (a : Int))
  | .if_icmp o off => mc_dc y pc (.if_icmp o off) nx 3 && decide ((pc : Int) + off = (a : Int))
  | .getfield i => mc_dc y pc (.getfield i) nx 3 && mc_fld y a b i ps
  | .putfield i => mc_dc y pc (.putfield i) nx 3 && (mc_fld y a b i ps && mc_fldp y a b sw)
  | .getstatic i => mc_dc y pc (.getstatic i) nx 3 && mc_sta y a i ps
  | .tableswitch df lo hi offs => decide (decode y.2.1 pc = .ok (.tableswitch df lo hi offs, nx - pc)) && mc_tsw pc b df lo hi offs sw
  | .lookupswitch df prs => decide (decode y.2.1 pc = .ok (.lookupswitch df prs, nx - pc)) && mc_lsw pc b df prs sw
  | .new i => mc_dc y pc (.new i) nx 3 && mc_newb y a b i vs ps
  | .newarray t => mc_dc y pc (.newarray t) nx 2 && mc_arr t a ps
  | .multianewarray i k => (mc_dc y pc (.multianewarray i k) nx 4 && Nat.beq k 2) && (mc_wd ps 0 (.classLink y.1.cls i "[[I") && mc_wd ps 1 (.arrayClass .int))
  | .invokespecial i => mc_dc y pc (.invokespecial i) nx 3 && (bif Nat.beq b 0 then (mc_wd ps 0 (.methodLink y.1.cls i Lib.objectInit) && (mc_wd ps 1 (.instanceMethod Lib.objectInit) && mc_wd ps 2 (.code Lib.objectInit ⟨#[0xb1]⟩ 1 none))) else mc_spc PM y a b i ps)
  | .invokestatic i => mc_dc y pc (.invokestatic i) nx 3 && (bif Nat.beq a 100001 then (mc_wd ps 0 (.methodLink y.1.cls i arraycopyName) && (mc_wd ps 1 (.native arraycopyName) && (mc_wd ps 2 (.static arraycopyName) && mc_wd ps 3 (.initialized "java/lang/System")))) else mc_stc PM y a b i ps)
  | .invokevirtual i => mc_dc y pc (.invokevirtual i) nx 3 && mc_vrt PM y a b i sw ps
  | .ireturn => mc_dc y pc .ireturn nx 1 && ((Nat.beq a 0 && decide (y.2.2.2.1 = some .int)) || (Nat.beq a 1 && decide (y.2.2.2.1 = some .boolean)))
  | .lreturn => mc_dc y pc .lreturn nx 1 && decide (y.2.2.2.1 = some .long)
  | .areturn => mc_dc y pc .areturn nx 1 && mc_arf y.2.2.2.1
  | .return_ => mc_dc y pc .return_ nx 1 && decide (y.2.2.2.1 = none)
  | _ => false
def mc_okE (PM : Nat → mc_M) (y : mc_M) : mc_En → Bool
  | (pc, ins, nx, a, b, iv, lv, sw, vs, ps) => mc_okI PM y pc ins nx a b iv lv sw vs ps
theorem mc_noalt_pop {b : Nat} {st : List Value} {k : List Value → List Value → Option mc_O} {alts : List (Bool × mc_S)} (hk : ∀ as r, k as r ≠ some (.inl alts)) : mc_pop b st [] k ≠ some (.inl alts) := by
  intro h
  obtain ⟨as, r, -, -, h3⟩ := mc_pop_spec h
  exact hk _ _ h3
theorem mc_noalt_I {i : Nat} {nx a b : Nat} {iv : Int32} {lv : Int64} {sw : List (Int32 × Nat)} {vs : List Value} {L : List (Option Value)} {st : List Value} {h : mc_H} {c n : Nat} (alts : List (Bool × mc_S)) : mc_stepI (.invokespecial i) nx a (b + 1) iv lv sw vs L st h c n ≠ some (.inl alts) := by
  refine mc_noalt_pop (fun as r hq => ?_)
  revert hq
  split
  · cases Nat.ble _ 8 <;> simp
  · simp
section MN
variable {p : Program} {l : Launch} {e : Env} {R : Room} {s : State} {m : MethodId} {args : Array Value} {below : List Frame} {meth : Method} {c : Code} {Q : State → Prop} {D : va_G} {A : Nat → Prop} {y : mc_M} {pc nx a b : Nat} {iv : Int32} {lv : Int64} {sw : List (Int32 × Nat)} {vs : List Value} {ps : List Nat} {L : List (Option Value)} {st : List Value} {h : mc_H} {c0 n0 : Nat} {ρ : Nat → Option Nat} {H : Heap} {locs : List Loc} {ls : Array Slot} {st' : List Value} {alts : List (Bool × mc_S)} {S' : mc_S} {ins : Instr} {PM : Nat → mc_M}
set_option maxHeartbeats 4000000 in
theorem mc_one (hcls : mc_Cls) (C : mc_Cx p s m args meth c D A y) (hok : mc_okI PM y pc ins nx a b iv lv sw vs ps = true) (hat : mc_At D s A y.2.2.1 (pc, L, st, h, c0, n0) ρ H locs ls st') (hR : S'.2.2.2.2.1 ≤ R.cells ∧ S'.2.2.2.2.2 ≤ R.slots) (hRf : 1 ≤ R.frames) (hRl : 40 ≤ R.locals) (hs : mc_stepI ins nx a b iv lv sw vs L st h c0 n0 = some (.inl alts)) (ha : mc_alt alts = some S') (kk : mc_Kn p l e R s m args below meth c Q D A y.2.2.1 ρ S') : W p l e R s m args below meth c H locs c0 n0 Q (F0 m pc ls st') := by
  cases ins with
  | iadd =>
    obtain ⟨hd, rfl⟩ := mc_dc_spec hok; exact mc_i_iadd C hat hd hs ha kk
  | isub =>
    obtain ⟨hd, rfl⟩ := mc_dc_spec hok; exact mc_i_isub C hat hd hs ha kk
  | imul =>
    obtain ⟨hd, rfl⟩ := mc_dc_spec hok; exact mc_i_imul C hat hd hs ha kk
  | iand =>
    obtain ⟨hd, rfl⟩ := mc_dc_spec hok; exact mc_i_iand C hat hd hs ha kk
  | ior =>
    obtain ⟨hd, rfl⟩ := mc_dc_spec hok; exact mc_i_ior C hat hd hs ha kk
  | ixor =>
    obtain ⟨hd, rfl⟩ := mc_dc_spec hok; exact mc_i_ixor C hat hd hs ha kk
  | ishl =>
    obtain ⟨hd, rfl⟩ := mc_dc_spec hok; exact mc_i_ishl C hat hd hs ha kk
  | ishr =>
    obtain ⟨hd, rfl⟩ := mc_dc_spec hok; exact mc_i_ishr C hat hd hs ha kk
  | iushr =>
    obtain ⟨hd, rfl⟩ := mc_dc_spec hok; exact mc_i_iushr C hat hd hs ha kk
  | idiv =>
    obtain ⟨hd, rfl⟩ := mc_dc_spec hok; exact mc_i_idiv C hat hd hs ha kk
  | irem =>
    obtain ⟨hd, rfl⟩ := mc_dc_spec hok; exact mc_i_irem C hat hd hs ha kk
  | ladd =>
    obtain ⟨hd, rfl⟩ := mc_dc_spec hok; exact mc_i_ladd C hat hd hs ha kk
  | lmul =>
    obtain ⟨hd, rfl⟩ := mc_dc_spec hok; exact mc_i_lmul C hat hd hs ha kk
  | land =>
    obtain ⟨hd, rfl⟩ := mc_dc_spec hok; exact mc_i_land C hat hd hs ha kk
  | lor =>
    obtain ⟨hd, rfl⟩ := mc_dc_spec hok; exact mc_i_lor C hat hd hs ha kk
  | ldiv =>
    obtain ⟨hd, rfl⟩ := mc_dc_spec hok; exact mc_i_ldiv C hat hd hs ha kk
  | lrem =>
    obtain ⟨hd, rfl⟩ := mc_dc_spec hok; exact mc_i_lrem C hat hd hs ha kk
  | lcmp =>
    obtain ⟨hd, rfl⟩ := mc_dc_spec hok; exact mc_i_lcmp C hat hd hs ha kk
  | lshl =>
    obtain ⟨hd, rfl⟩ := mc_dc_spec hok; exact mc_i_lshl C hat hd hs ha kk
  | lushr =>
    obtain ⟨hd, rfl⟩ := mc_dc_spec hok; exact mc_i_lushr C hat hd hs ha kk
  | ineg =>
    obtain ⟨hd, rfl⟩ := mc_dc_spec hok; exact mc_i_ineg C hat hd hs ha kk
  | i2l =>
    obtain ⟨hd, rfl⟩ := mc_dc_spec hok; exact mc_i_i2l C hat hd hs ha kk
  | l2i =>
    obtain ⟨hd, rfl⟩ := mc_dc_spec hok; exact mc_i_l2i C hat hd hs ha kk
  | i2b =>
    obtain ⟨hd, rfl⟩ := mc_dc_spec hok; exact mc_i_i2b C hat hd hs ha kk
  | i2s =>
    obtain ⟨hd, rfl⟩ := mc_dc_spec hok; exact mc_i_i2s C hat hd hs ha kk
  | dup =>
    obtain ⟨hd, rfl⟩ := mc_dc_spec hok; exact mc_i_dup C hat hd hs ha kk
  | dup2 =>
    obtain ⟨hd, rfl⟩ := mc_dc_spec hok; exact mc_i_dup2 C hat hd hs ha kk
  | pop =>
    obtain ⟨hd, rfl⟩ := mc_dc_spec hok; exact mc_i_pop C hat hd hs ha kk
  | pop2 =>
    obtain ⟨hd, rfl⟩ := mc_dc_spec hok; exact mc_i_pop2 C hat hd hs ha kk
  | arraylength =>
    obtain ⟨hd, rfl⟩ := mc_dc_spec hok; exact mc_i_arraylength C hat hd hs ha kk
  | iaload =>
    obtain ⟨hd, rfl⟩ := mc_dc_spec hok; exact mc_i_iaload C hat hd hs ha kk
  | laload =>
    obtain ⟨hd, rfl⟩ := mc_dc_spec hok; exact mc_i_laload C hat hd hs ha kk
  | baload =>
    obtain ⟨hd, rfl⟩ := mc_dc_spec hok; exact mc_i_baload C hat hd hs ha kk
  | saload =>
    obtain ⟨hd, rfl⟩ := mc_dc_spec hok; exact mc_i_saload C hat hd hs ha kk
  | iastore =>
    obtain ⟨hd, rfl⟩ := mc_dc_spec hok; exact mc_i_iastore C hat hd hs ha kk
  | lastore =>
    obtain ⟨hd, rfl⟩ := mc_dc_spec hok; exact mc_i_lastore C hat hd hs ha kk
  | bastore =>
    obtain ⟨hd, rfl⟩ := mc_dc_spec hok; exact mc_i_bastore C hat hd hs ha kk
  | sastore =>
    obtain ⟨hd, rfl⟩ := mc_dc_spec hok; exact mc_i_sastore C hat hd hs ha kk
  | aaload =>
    obtain ⟨hd, rfl⟩ := mc_dc_spec hok; exact mc_i_aaload C hat hd hs ha kk
  | iconst i =>
    obtain ⟨h1, h2⟩ := mc_and hok; obtain ⟨hd, rfl⟩ := mc_dc_spec h1; exact mc_i_iconst C hat (of_decide_eq_true h2) hd hs ha kk
  | bipush i =>
    obtain ⟨h1, h2⟩ := mc_and hok; obtain ⟨hd, rfl⟩ := mc_dc_spec h1; exact mc_i_bipush C hat (of_decide_eq_true h2) hd hs ha kk
  | sipush i =>
    obtain ⟨h1, h2⟩ := mc_and hok; obtain ⟨hd, rfl⟩ := mc_dc_spec h1; exact mc_i_sipush C hat (of_decide_eq_true h2) hd hs ha kk
  | lconst i =>
    obtain ⟨h1, h2⟩ := mc_and hok; obtain ⟨hd, rfl⟩ := mc_dc_spec h1; exact mc_i_lconst C hat (of_decide_eq_true h2) hd hs ha kk
  | ldc i =>
    obtain ⟨h1, h2⟩ := mc_and hok; obtain ⟨hd, rfl⟩ := mc_dc_spec h1; exact mc_i_ldc C hat (mc_wd_in h2) hd hs ha kk
  | ldc_w i =>
    obtain ⟨h1, h2⟩ := mc_and hok; obtain ⟨hd, rfl⟩ := mc_dc_spec h1; exact mc_i_ldc_w C hat (mc_wd_in h2) hd hs ha kk
  | ldc2_w i =>
    obtain ⟨h1, h2⟩ := mc_and hok; obtain ⟨hd, rfl⟩ := mc_dc_spec h1; exact mc_i_ldc2_w C hat (mc_wd_in h2) hd hs ha kk
  | iload_n i =>
    obtain ⟨h1, h2⟩ := mc_and hok; obtain ⟨hd, rfl⟩ := mc_dc_spec h1; exact mc_i_iload_n C hat (Nat.eq_of_beq_eq_true h2) hd hs ha kk
  | iload i =>
    obtain ⟨h1, h2⟩ := mc_and hok; obtain ⟨hd, rfl⟩ := mc_dc_spec h1; exact mc_i_iload C hat (Nat.eq_of_beq_eq_true h2) hd hs ha kk
  | lload_n i =>
    obtain ⟨h1, h2⟩ := mc_and hok; obtain ⟨hd, rfl⟩ := mc_dc_spec h1; exact mc_i_lload_n C hat (Nat.eq_of_beq_eq_true h2) hd hs ha kk
  | lload i =>
    obtain ⟨h1, h2⟩ := mc_and hok; obtain ⟨hd, rfl⟩ := mc_dc_spec h1; exact mc_i_lload C hat (Nat.eq_of_beq_eq_true h2) hd hs ha kk
  | aload_n i =>
    obtain ⟨h1, h2⟩ := mc_and hok; obtain ⟨hd, rfl⟩ := mc_dc_spec h1; exact mc_i_aload_n C hat (Nat.eq_of_beq_eq_true h2) hd hs ha kk
  | aload i =>
    obtain ⟨h1, h2⟩ := mc_and hok; obtain ⟨hd, rfl⟩ := mc_dc_spec h1; exact mc_i_aload C hat (Nat.eq_of_beq_eq_true h2) hd hs ha kk
  | istore_n i =>
    obtain ⟨h1, h2⟩ := mc_and hok; obtain ⟨hd, rfl⟩ := mc_dc_spec h1; obtain ⟨h3, h4⟩ := mc_and h2; exact mc_i_istore_n C hat (Nat.eq_of_beq_eq_true h3) (of_decide_eq_true h4) hd hs ha kk
  | astore_n i =>
    obtain ⟨h1, h2⟩ := mc_and hok; obtain ⟨hd, rfl⟩ := mc_dc_spec h1; obtain ⟨h3, h4⟩ := mc_and h2; exact mc_i_astore_n C hat (Nat.eq_of_beq_eq_true h3) (of_decide_eq_true h4) hd hs ha kk
  | istore i =>
    obtain ⟨h1, h2⟩ := mc_and hok; obtain ⟨hd, rfl⟩ := mc_dc_spec h1; obtain ⟨h3, h4⟩ := mc_and h2; exact mc_i_istore C hat (Nat.eq_of_beq_eq_true h3) (of_decide_eq_true h4) hd hs ha kk
  | lstore_n i =>
    obtain ⟨h1, h2⟩ := mc_and hok; obtain ⟨hd, rfl⟩ := mc_dc_spec h1; obtain ⟨h3, h4⟩ := mc_and h2; exact mc_i_lstore_n C hat (Nat.eq_of_beq_eq_true h3) (of_decide_eq_true h4) hd hs ha kk
  | lstore i =>
    obtain ⟨h1, h2⟩ := mc_and hok; obtain ⟨hd, rfl⟩ := mc_dc_spec h1; obtain ⟨h3, h4⟩ := mc_and h2; exact mc_i_lstore C hat (Nat.eq_of_beq_eq_true h3) (of_decide_eq_true h4) hd hs ha kk
  | iinc i k =>
    obtain ⟨h1, h2⟩ := mc_and hok; obtain ⟨hd, rfl⟩ := mc_dc_spec h1; obtain ⟨h3, h4⟩ := mc_and h2; obtain ⟨h5, h6⟩ := mc_and h4; exact mc_i_iinc C hat (Nat.eq_of_beq_eq_true h3) (of_decide_eq_true h5) (of_decide_eq_true h6) hd hs ha kk
  | goto off =>
    obtain ⟨h1, h2⟩ := mc_and hok; obtain ⟨hd, rfl⟩ := mc_dc_spec h1; exact mc_i_goto C hat (of_decide_eq_true h2) hd hs ha kk
  | ifCond o off =>
    obtain ⟨h1, h2⟩ := mc_and hok; obtain ⟨hd, rfl⟩ := mc_dc_spec h1; exact mc_i_ifCond C hat (of_decide_eq_true h2) hd hs ha kk
  | if_icmp o off =>
    obtain ⟨h1, h2⟩ := mc_and hok; obtain ⟨hd, rfl⟩ := mc_dc_spec h1; exact mc_i_if_icmp C hat (of_decide_eq_true h2) hd hs ha kk
  | getfield i =>
    obtain ⟨h1, h2⟩ := mc_and hok; obtain ⟨hd, rfl⟩ := mc_dc_spec h1; obtain ⟨Cn, Tn, Nn, hc, hbN, hw⟩ := mc_fld_spec h2; exact mc_i_getfield C hat hc (hcls a _ hc).1 hbN hw hd hs ha kk
  | putfield i =>
    obtain ⟨h1, h2⟩ := mc_and hok; obtain ⟨hd, rfl⟩ := mc_dc_spec h1; obtain ⟨h3, h4⟩ := mc_and h2; obtain ⟨Cn, Tn, Nn, hc, hbN, hw⟩ := mc_fld_spec h3; obtain ⟨u9, hfin, hk⟩ := mc_fldp_spec hc h4; rcases hk with ⟨rfl, hk⟩ | ⟨rfl, hk⟩ | ⟨rfl, hk⟩ | ⟨rfl, hk⟩
    · exact mc_i_putfield0 C hat hc (hcls a _ hc).1 hbN hw (mc_ft Tn) (hcls a _ hc).2.1 (hcls a _ hc).2.2 hfin hk hd hs ha kk
    · exact mc_i_putfield1 C hat hc (hcls a _ hc).1 hbN hw (mc_ft Tn) (hcls a _ hc).2.1 (hcls a _ hc).2.2 hfin hk hd hs ha kk
    · exact mc_i_putfield2 C hat hc (hcls a _ hc).1 hbN hw (mc_ft Tn) (hcls a _ hc).2.1 (hcls a _ hc).2.2 hfin hk hd hs ha kk
    · exact mc_i_putfield3 C hat hc (hcls a _ hc).1 hbN hw (mc_ft Tn) (hcls a _ hc).2.1 (hcls a _ hc).2.2 hfin hk hd hs ha kk
  | getstatic i =>
    obtain ⟨h1, h2⟩ := mc_and hok; obtain ⟨hd, rfl⟩ := mc_dc_spec h1; obtain ⟨k, nm, t, g1, g2, g3, g4⟩ := mc_sta_spec h2; exact mc_i_getstatic C hat g1 g2 g3 g4 hd hs ha kk
  | tableswitch df lo hi offs =>
    obtain ⟨h1, h2⟩ := mc_and hok; obtain ⟨g1, g2, g3, g4⟩ := mc_tsw_spec h2; exact mc_i_tableswitch C hat g1 g2 g3 g4 (of_decide_eq_true h1) hs ha kk
  | lookupswitch df prs =>
    obtain ⟨h1, h2⟩ := mc_and hok; obtain ⟨g1, g2, g3⟩ := mc_lsw_spec h2; exact mc_i_lookupswitch C hat g1 g2 g3 (of_decide_eq_true h1) hs ha kk
  | new i =>
    obtain ⟨h1, h2⟩ := mc_and hok; obtain ⟨hd, rfl⟩ := mc_dc_spec h1; obtain ⟨Cn, Tn, Nn, hc, g1, g2, g3, g4, g5, g6⟩ := mc_newb_spec h2; exact mc_i_new C hat hc (hcls a _ hc).1 (mc_ft Tn) (hcls a _ hc).2.1 g1 g2 g3 g4 g5 g6 hR hd hs ha kk
  | newarray t =>
    obtain ⟨h1, h2⟩ := mc_and hok; obtain ⟨hd, rfl⟩ := mc_dc_spec h1; rcases mc_arr_spec h2 with ⟨rfl, rfl, g⟩ | ⟨rfl, rfl, g⟩ | ⟨rfl, rfl, g⟩ | ⟨rfl, rfl, g⟩
    · exact mc_i_newarray_int C hat g hR hd hs ha kk
    · exact mc_i_newarray_long C hat g hR hd hs ha kk
    · exact mc_i_newarray_byte C hat g hR hd hs ha kk
    · exact mc_i_newarray_short C hat g hR hd hs ha kk
  | multianewarray i k =>
    obtain ⟨h0, h2⟩ := mc_and hok; obtain ⟨h1, h5⟩ := mc_and h0; obtain rfl := Nat.eq_of_beq_eq_true h5; obtain ⟨hd, rfl⟩ := mc_dc_spec h1; obtain ⟨h3, h4⟩ := mc_and h2; exact mc_i_multi C hat (mc_wd_in h3) (mc_wd_in h4) hR hd hs ha kk
  | invokespecial i =>
    obtain ⟨h1, h2⟩ := mc_and hok
    obtain ⟨hd, rfl⟩ := mc_dc_spec h1
    cases b with
    | zero =>
      obtain ⟨h3, h4⟩ := mc_and h2
      obtain ⟨h5, h6⟩ := mc_and h4
      exact mc_i_objInit C hat rfl (mc_wd_in h3) (mc_wd_in h5) (mc_wd_in h6) (by omega) (by omega) hd hs ha kk
    | succ b => exact absurd hs (mc_noalt_I _)
  | invokestatic i =>
    obtain ⟨h1, h2⟩ := mc_and hok
    obtain ⟨hd, rfl⟩ := mc_dc_spec h1
    cases ha9 : Nat.beq a 100001 with
    | true =>
      rw [ha9, cond_true] at h2
      obtain ⟨h3, h4⟩ := mc_and h2
      obtain ⟨h5, h6⟩ := mc_and h4
      obtain ⟨h7, h8⟩ := mc_and h6
      exact mc_i_arraycopy C hat (Nat.eq_of_beq_eq_true ha9) (mc_wd_in h3) (mc_wd_in h5) (mc_wd_in h7) (mc_wd_in h8) (by omega) (by omega) hd hs ha kk
    | false =>
      dsimp only [mc_stepI] at hs
      rw [ha9, cond_false] at hs
      exact absurd hs (mc_noalt_pop (fun _ _ h => by revert h; cases Nat.ble _ 8 <;> simp))
  | invokevirtual i =>
    exact absurd hs (mc_noalt_pop (fun as r h => by
      revert h
      split
      · split
        · cases (Nat.beq _ _ && Nat.ble _ 8) <;> simp
        · simp
      · simp))
  | ireturn =>
    dsimp only [mc_stepI] at hs
    split at hs
    · split at hs <;> cases hs
    · cases hs
  | lreturn =>
    dsimp only [mc_stepI] at hs
    split at hs <;> cases hs
  | areturn =>
    dsimp only [mc_stepI] at hs
    split at hs <;> cases hs
  | return_ =>
    dsimp only [mc_stepI] at hs
    split at hs <;> cases hs
  | _ => cases hs
end MN
