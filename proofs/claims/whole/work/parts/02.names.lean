theorem goodIn_r {big : List Cond} (ws : List Cond) (ps : List Nat) (hp : ws = ps.filterMap (fun i => big[i]?)) (h : ws.all goodWord = true) : GoodIn big ws := by
  intro w hw
  have h1 := List.all_eq_true.mp h w hw
  rw [hp] at hw
  obtain ⟨i, -, hi⟩ := List.mem_filterMap.mp hw
  have hm : w ∈ big := by first | exact List.mem_of_getElem? hi | exact List.getElem?_mem hi
  exact ⟨hm, good_of_word h1⟩
theorem goodIn_app {big a b : List Cond} (ha : GoodIn big a) (hb : GoodIn big b) : GoodIn big (a ++ b) := fun w h => (List.mem_append.mp h).elim (ha w) (hb w)
theorem goodIn_ca {big a b : List Cond} {c : Cond} (ha : GoodIn big (c :: a)) (hb : GoodIn big b) : GoodIn big (c :: (a ++ b)) := fun w h => (List.mem_cons.mp h).elim (fun e => ha w (List.mem_cons.mpr (Or.inl e))) (fun h => (List.mem_append.mp h).elim (fun h => ha w (List.mem_cons.mpr (Or.inr h))) (hb w))
theorem goodIn_sub {big ws : List Cond} (hm : ∀ w ∈ ws, w ∈ big) (h : ws.all goodWord = true) : GoodIn big ws := fun w hw => ⟨hm w hw, good_of_word (List.all_eq_true.mp h w hw)⟩

/-- f, but v at every address of l -/
def vr_up {α : Type} (f : Nat → α) (l : List Nat) (v : α) : Nat → α := fun a => if a ∈ l then v else f a
theorem vr_up_in {α : Type} {f : Nat → α} {l : List Nat} {v : α} {a : Nat} (h : a ∈ l) : vr_up f l v a = v := if_pos h
theorem vr_up_ne {α : Type} {f : Nat → α} {l : List Nat} {v : α} {a : Nat} (h : a ∉ l) : vr_up f l v a = f a := if_neg h
theorem vr_rows {L l : List Nat} {f : Nat → va_E} {e : va_E} (h : ∀ a, a ∈ l → a ∉ L) : va_pl L f ++ l.map (fun a => (a, e)) = va_pl (L ++ l) (vr_up f l e) := by
  unfold va_pl
  rw [List.map_append]
  congr 1
  · apply List.map_congr_left
    intro a ha
    rw [vr_up_ne (fun q => h a q ha)]
  · apply List.map_congr_left
    intro a ha
    rw [vr_up_in ha]
theorem vr_lay {X rows : va_W} {x : Nat × va_E} {pl : va_W} {D : va_G} {cl : List vw_C} {H : Heap} (hP : va_P D cl (((X ++ pl) ++ [x]) ++ rows) H) : va_P D cl ((X ++ [x]) ++ (pl ++ rows)) H := by
  rw [List.append_assoc (X ++ pl)] at hP
  have h := va_P.swap hP
  rw [← List.append_assoc X] at h
  have h2 := va_P.swap h
  rw [List.append_assoc (X ++ [x])] at h2
  exact h2
theorem vr_layD {X rows : va_W} {x : Nat × va_E} {pl : va_W} {A : Nat → Prop} (hD : va_D A (((X ++ pl) ++ [x]) ++ rows)) : va_D A ((X ++ [x]) ++ (pl ++ rows)) := by
  rw [List.append_assoc (X ++ pl)] at hD
  have h := va_D.swap hD
  rw [← List.append_assoc X] at h
  have h2 := va_D.swap h
  rw [List.append_assoc (X ++ [x])] at h2
  exact h2
theorem vr_outer (c : ClassId) (N h0 : Nat) : ∀ i : Nat, Jvm.Free.Multi.outerC c N h0 i = arrV c N (fun j => va_rf (if j < i then some (h0 + 1 + j) else none))
  | 0 => by
    show ({ cls := c, slots := Array.replicate N .null, vm := .none } : Cell) = _
    rw [arrV_new]
    refine congrArg (arrV c N) (funext fun j => ?_)
    simp [va_rf]
  | i + 1 => by
    show (Jvm.Free.Multi.outerC c N h0 i).setSlot i (.ref (h0 + 1 + i)) = _
    rw [vr_outer c N h0 i, arrV_store]
    refine congrArg (arrV c N) (funext fun j => ?_)
    by_cases e : j = i
    · subst e
      simp [updV, va_rf]
    · by_cases h : j < i
      · simp [updV, e, h, Nat.lt_succ_of_lt h]
      · simp [updV, e, h, show ¬ j < i + 1 by omega]
def va_AOA (t : FieldType) (U : State) : Prop := (Cond.arrayOver (.array t)).before #[] U = true
theorem va_AOA.of {t : FieldType} {A : Array Value} {U : State} (h : (Cond.arrayOver (.array t)).before A U = true) : va_AOA t U := h
theorem va_AOA.use {t : FieldType} {A : Array Value} {U : State} (h : va_AOA t U) : (Cond.arrayOver (.array t)).before A U = true := h
theorem mc_findI {P : Class → Bool} {u U : Vm} (hP : ∀ vm : Vm, vm.bare.classes.findIdx? P = vm.classes.findIdx? P) (hvm : u.Alike U) {c : Nat} (h : u.classes.findIdx? P = some c) : U.classes.findIdx? P = some c := by
  rw [← hP]
  first | rw [hvm.bare_eq] | rw [← hvm.bare_eq]
  rw [hP]
  exact h
theorem va_AOA.moved {t : FieldType} {u U : State} (hvm : u.vm.Alike U.vm) (h : va_AOA t u) : va_AOA t U := by
  obtain ⟨comp, c, k, h1, h2, h3, h4, h5⟩ := arrayOverA_spec h
  obtain ⟨k', hk', he⟩ := hvm.2.2 _ _ h3
  have hi := mc_findI (U := U.vm) (fun vm => by simp only [Vm.bare, Array.findIdx?_map]; rfl) hvm h2
  have hkind : k'.kind = .array comp (.array t) := by rw [he]; exact h4
  have f1 : U.vm.findClass (FieldType.array t).toString = some comp := by rw [hvm.findClass]; exact h1
  have f2 : U.vm.findClass ("[" ++ (FieldType.array t).toString) = some c := by rw [hvm.findClass]; exact h5
  unfold va_AOA Cond.before Cond.holds
  simp only [Cond.value]
  rw [f1, Option.bind_some]
  refine (congrArg (fun o : Option Nat => (o.bind (fun c => (U.vm.classes[c]?).map fun (k : Class) => match k.kind with | .array _ ty => decide (ty = FieldType.array t) && decide (U.vm.findClass ("[" ++ (FieldType.array t).toString) = some c) | _ => false) == some true)) hi).trans ?_
  simp [hk', hkind, f2]
section VGM
variable {p : Program} {l : Launch} {e : Env} {R : Room} {s : State} {m : MethodId} {args : Array Value} {below : List Frame} {meth : Method} {c : Code} {H : Heap} {locs : List Loc} {cells slots : Nat} {Q : State → Prop}
variable {cc : ByteArray} {pc : Nat} {ls : Array Slot} {rest : List Value} {D : va_G} {cl : List vw_C} {A : Nat → Prop} {a : Nat} {tys : List (ClassId × FieldType)} {ws : va_W} {H0 : Heap}
theorem va_mna {X : va_W} {L : List Nat} {f : Nat → va_E} {cc : ByteArray} (hexec : p.tables.exec = Jvm.exec) (hb : c.code = cc) {own : String} {index : Nat} {ty : FieldType} {cy : ClassId} (hown : s.vm.findClass own = some m.cls) (hclink : (Cond.classLink own index ("[" ++ (FieldType.array ty).toString)).before args s = true) (hover : va_AOA ty s) (harr : (Cond.arrayClass ty).before args s = true) (hcy : s.vm.findClass (FieldType.array ty).toString = some cy)
    (hK : va_K D cl tys s) (hP : va_P D cl (X ++ va_pl L f) H) (hD : va_D A (X ++ va_pl L f)) (hS : va_S A H0 H locs) (hA : ∀ q, H0.size ≤ q → A q) {n k : Int32} {N' K' : Nat} {z : vp_A} (hn : ¬ n < 0) (hk : ¬ k < 0) (hN : n.toNatClampNeg = N') (hM : k.toNatClampNeg = K')
    (hb1 : N' * 4 ≤ 536870912) (hb2 : K' * componentBytes ty ≤ 536870912) (hb3 : K' ≤ 536870912) (hdf : fits ty (defaultValue ty) = true) (hdd : (defaultValue ty).isDefault = true) (hcells : cells + (1 + N') ≤ R.cells) (hslots : slots + (N' + N' * K') ≤ R.slots) (hz : ∀ c : ClassId, Jvm.Free.Multi.innerC c K' (defaultValue ty) = vp_cell c z) (hdg : decode cc pc = .ok (.multianewarray index 2, 4))
    (kk : ∀ (q : Nat) (r : Nat → Nat) (cA : ClassId) (H1 : Heap), (∀ i j : Nat, i < N' → j < N' → r i = r j → i = j) → (∀ i : Nat, i < N' → r i ∉ L) → va_K D cl (tys ++ [(cA, .array ty)]) s →
      va_P D cl ((X ++ [(q, .inl (cA, N', .inr (.inr (.inr (.inr (fun i => if i < N' then some (r i) else none))))))]) ++ va_pl (L ++ (List.range N').map r) (vr_up f ((List.range N').map r) (.inl (cy, z)))) H1 → va_D A ((X ++ [(q, .inl (cA, N', .inr (.inr (.inr (.inr (fun i => if i < N' then some (r i) else none))))))]) ++ va_pl (L ++ (List.range N').map r) (vr_up f ((List.range N').map r) (.inl (cy, z)))) → va_S A H0 H1 locs →
      W p l e R s m args below meth c H1 locs (cells + 1 + N') (slots + N' + N' * K') Q (F0 m (pc + 4) ls (.ref q :: rest))) : W p l e R s m args below meth c H locs cells slots Q (F0 m pc ls (.int k :: .int n :: rest)) := by
  subst hN
  subst hM
  intro T hT Xs
  obtain ⟨vm₁, cA, comp, -, fA, fC, hO, -, X', step⟩ := Xs.multianewarray2F hexec hown hclink (va_AOA.use hover) harr (g := F0 m pc ls (.int k :: .int n :: rest)) rfl (by rw [hb]; exact hdg) rfl hn hk hb1 hb2 hb3 hdf hdd hcells hslots
  have ec : some cy = some comp := hcy.symm.trans fC
  cases ec
  generalize hF : Jvm.Free.Multi.fill (T.setVm vm₁) cA cy n.toNatClampNeg k.toNatClampNeg (defaultValue ty) n.toNatClampNeg = F at X' step
  have hTh : (T.setVm vm₁).heap = H := hT
  obtain ⟨f1, f2, -, -⟩ := Jvm.Free.Multi.fill_facts (T.setVm vm₁) cA cy n.toNatClampNeg k.toNatClampNeg (defaultValue ty) n.toNatClampNeg
  rw [hF, hTh] at f1 f2
  have hold : ∀ x : Nat, x < H.size → F.heap[x]? = H[x]? := fun x hx => by
    have := Jvm.Free.Multi.fill_old (T.setVm vm₁) cA cy n.toNatClampNeg k.toNatClampNeg (defaultValue ty) (a := x) (by rw [hTh]; exact hx) n.toNatClampNeg
    rw [hF, hTh] at this
    exact this
  have hrow : ∀ j : Nat, j < n.toNatClampNeg → F.heap[H.size + 1 + j]? = some (vp_cell cy z) := fun j hj => by
    have := Jvm.Free.Multi.fill_inner (T.setVm vm₁) cA cy n.toNatClampNeg k.toNatClampNeg (defaultValue ty) n.toNatClampNeg j hj
    rw [hF, hTh, hz] at this
    exact this
  have hout : Jvm.Free.Multi.outerC cA n.toNatClampNeg H.size n.toNatClampNeg = vp_cell cA (n.toNatClampNeg, .inr (.inr (.inr (.inr (fun i => if i < n.toNatClampNeg then some (H.size + 1 + i) else none))))) := by
    rw [vp_cell_q]
    exact vr_outer cA n.toNatClampNeg H.size n.toNatClampNeg
  rw [hout] at f2
  have hlt : ∀ a, a ∈ L → a < H.size := fun a ha => by
    obtain ⟨k9, hk9⟩ := va_pl_get (X := X) (f := f) ha
    exact (hP k9 _ hk9).lt
  have hnl : ∀ i : Nat, i < n.toNatClampNeg → H.size + 1 + i ∉ L := fun i _ h => by
    have := hlt _ h
    omega
  have hnm : ∀ a, a ∈ (List.range n.toNatClampNeg).map (fun i => H.size + 1 + i) → a ∉ L := fun a ha h => by
    obtain ⟨i, -, rfl⟩ := List.mem_map.mp ha
    have := hlt _ h
    omega
  have hP0 : va_P D cl (X ++ va_pl L f) F.heap := hP.kept (fun k9 x hx => hold x.1 ((hP k9 x hx).lt))
  have hP1 : va_P D cl ((X ++ va_pl L f) ++ [(H.size, .inl (cA, n.toNatClampNeg, .inr (.inr (.inr (.inr (fun i => if i < n.toNatClampNeg then some (H.size + 1 + i) else none))))))]) F.heap := hP0.app (fun k9 x hx => by
    have h0 : k9 < 1 := (List.getElem?_eq_some_iff.mp hx).1
    rw [show k9 = 0 by omega] at hx
    cases hx
    exact f2)
  have hP2 : va_P D cl (((X ++ va_pl L f) ++ [(H.size, .inl (cA, n.toNatClampNeg, .inr (.inr (.inr (.inr (fun i => if i < n.toNatClampNeg then some (H.size + 1 + i) else none))))))]) ++ ((List.range n.toNatClampNeg).map (fun i => H.size + 1 + i)).map (fun a => (a, .inl (cy, z)))) F.heap := hP1.app (fun k9 x hx => by
    obtain ⟨a, ha, rfl⟩ := List.mem_map.mp (List.mem_of_getElem? hx)
    obtain ⟨i, hi, rfl⟩ := List.mem_map.mp ha
    exact hrow i (List.mem_range.mp hi))
  have hD2 : va_D A (((X ++ va_pl L f) ++ [(H.size, .inl (cA, n.toNatClampNeg, .inr (.inr (.inr (.inr (fun i => if i < n.toNatClampNeg then some (H.size + 1 + i) else none))))))]) ++ ((List.range n.toNatClampNeg).map (fun i => H.size + 1 + i)).map (fun a => (a, .inl (cy, z)))) := by
    have hD1 := hD.push (e := .inl (cA, n.toNatClampNeg, .inr (.inr (.inr (.inr (fun i => if i < n.toNatClampNeg then some (H.size + 1 + i) else none)))))) hP rfl (hA _ hS.1)
    generalize hW1 : (X ++ va_pl L f) ++ [(H.size, .inl (cA, n.toNatClampNeg, .inr (.inr (.inr (.inr (fun i => if i < n.toNatClampNeg then some (H.size + 1 + i) else none))))))] = W1 at hD1 hP1 ⊢
    have hle : ∀ (k9 : Nat) (x : Nat × va_E), W1[k9]? = some x → x.1 ≤ H.size := fun k9 x hx => by
      rw [← hW1] at hx
      by_cases hl : k9 < (X ++ va_pl L f).length
      · rw [List.getElem?_append_left hl] at hx
        exact Nat.le_of_lt ((hP k9 x hx).lt)
      · rw [List.getElem?_append_right (by omega)] at hx
        have h0 : k9 - (X ++ va_pl L f).length < 1 := (List.getElem?_eq_some_iff.mp hx).1
        rw [show k9 - (X ++ va_pl L f).length = 0 by omega] at hx
        cases hx
        exact Nat.le_refl _
    have hr : ∀ (k9 : Nat) (x : Nat × va_E), (((List.range n.toNatClampNeg).map (fun i => H.size + 1 + i)).map (fun a => ((a, .inl (cy, z)) : Nat × va_E)))[k9]? = some x → x.1 = H.size + 1 + k9 := fun k9 x hx => by
      rw [List.getElem?_map, List.getElem?_map] at hx
      by_cases h9 : k9 < n.toNatClampNeg
      · rw [List.getElem?_range h9] at hx
        cases hx
        rfl
      · have hn0 : (List.range n.toNatClampNeg)[k9]? = none := List.getElem?_eq_none (by rw [List.length_range]; omega)
        rw [hn0] at hx
        cases hx
    refine ⟨fun i j x y hi hj hxy => ?_, fun k9 x hx => ?_⟩
    · by_cases h1 : i < W1.length <;> by_cases h2 : j < W1.length
      · rw [List.getElem?_append_left h1] at hi
        rw [List.getElem?_append_left h2] at hj
        exact hD1.1 i j x y hi hj hxy
      · rw [List.getElem?_append_left h1] at hi
        rw [List.getElem?_append_right (by omega)] at hj
        have := hle _ _ hi
        have := hr _ _ hj
        omega
      · rw [List.getElem?_append_right (by omega)] at hi
        rw [List.getElem?_append_left h2] at hj
        have := hle _ _ hj
        have := hr _ _ hi
        omega
      · rw [List.getElem?_append_right (by omega)] at hi hj
        have := hr _ _ hi
        have := hr _ _ hj
        omega
    · by_cases h1 : k9 < W1.length
      · rw [List.getElem?_append_left h1] at hx
        exact hD1.2 k9 x hx
      · rw [List.getElem?_append_right (by omega)] at hx
        have := hr _ _ hx
        exact hA _ (by have := hS.1; omega)
  have hAr : ArrOfT s cA (.array ty) := fun N9 z9 => by
    obtain ⟨-, k9, hk9, cm9, hkk9⟩ := (hO 0 0 0).1
    exact ⟨(fun q hq => by cases hq), k9, hk9, cm9, hkk9⟩
  have hK2 : va_K D cl (tys ++ [(cA, .array ty)]) s := ⟨hK.1, fun k9 x hx => by
    by_cases hl : k9 < tys.length
    · rw [List.getElem?_append_left hl] at hx
      exact hK.2 k9 x hx
    · rw [List.getElem?_append_right (by omega)] at hx
      have h0 : k9 - tys.length < 1 := (List.getElem?_eq_some_iff.mp hx).1
      rw [show k9 - tys.length = 0 by omega] at hx
      cases hx
      exact ⟨hAr, fA⟩⟩
  obtain ⟨t, a1, b1⟩ := kk H.size (fun i => H.size + 1 + i) cA F.heap (fun i j _ _ h => by have h9 : H.size + 1 + i = H.size + 1 + j := h; omega) hnl hK2 (by rw [← vr_rows hnm]; exact vr_lay hP2) (by rw [← vr_rows hnm]; exact vr_layD hD2) ⟨by rw [f1]; have := hS.1; omega, fun x h1 h2 => (hold x (Nat.lt_of_lt_of_le h1 hS.1)).trans (hS.2.1 x h1 h2), hS.2.2⟩ F rfl X'
  refine ⟨t, step t ?_, b1⟩
  have e : T.heap.size = H.size := by rw [hT]
  rw [e]
  exact a1
end VGM

def RX0 : String := "PastOnce$Ahead"
def TX0 : u_T := fun k => match k with
  | 0 => ("PastOnce$Ahead", "line", "LPastOnce$Line;", true)
  | 1 => ("PastOnce$Ahead", "known", "[J", false)
  | 2 => ("PastOnce$Ahead", "blocks", "[I", true)
  | 3 => ("PastOnce$Ahead", "met", "I", false)
  | 4 => ("PastOnce$Ahead", "sortsFrom", "[I", true)
  | 5 => ("PastOnce$Ahead", "scale", "[J", true)
  | 6 => ("PastOnce$Ahead", "stamp", "J", false)
  | 7 => ("PastOnce$Ahead", "last", "I", false)
  | 8 => ("PastOnce$Ahead", "parts", "I", false)
  | _ => ("PastOnce$Ahead", "chosen", "I", false)
def tyX0 : Nat → FieldType := fun k => match k with
  | 0 => .object "PastOnce$Line"
  | 1 => .array .long
  | 2 => .array .int
  | 3 => .int
  | 4 => .array .int
  | 5 => .array .long
  | 6 => .long
  | 7 => .int
  | 8 => .int
  | _ => .int
abbrev wsX00 : List Cond := u_ws RX0 TX0 10
theorem nmX0 : ∀ a, a < 10 → ∀ b, b < 10 → a ≠ b → (TX0 a).2.1 ≠ (TX0 b).2.1 := by decide +kernel
theorem tyX0_ok : ∀ k, k < 10 → parseFieldDescriptor (TX0 k).2.2.1 = some (tyX0 k) := by decide +kernel
abbrev cX0_init : ByteArray := prog_2_method_1_code
def yX0_init : MethodName := ⟨RX0, "<init>", "(LPastOnce$Line;)V"⟩
abbrev cX0_look : ByteArray := prog_2_method_2_code
def yX0_look : MethodName := ⟨RX0, "look", "(II)V"⟩
abbrev cX0_worthOfAll : ByteArray := prog_2_method_3_code
def yX0_worthOfAll : MethodName := ⟨RX0, "worthOfAll", "()J"⟩
abbrev cX0_worthWithFirst : ByteArray := prog_2_method_4_code
def yX0_worthWithFirst : MethodName := ⟨RX0, "worthWithFirst", "()J"⟩
abbrev cX0_fewest : ByteArray := prog_2_method_5_code
def yX0_fewest : MethodName := ⟨RX0, "fewest", "(III)I"⟩
abbrev cX0_worthFrom : ByteArray := prog_2_method_6_code
def yX0_worthFrom : MethodName := ⟨RX0, "worthFrom", "(III)J"⟩
abbrev cX0_blockOf : ByteArray := prog_2_method_7_code
def yX0_blockOf : MethodName := ⟨RX0, "blockOf", "(I)I"⟩
abbrev cX0_worthIfThere : ByteArray := prog_2_method_8_code
def yX0_worthIfThere : MethodName := ⟨RX0, "worthIfThere", "(III)J"⟩
def RX1 : String := "PastOnce$Bodies"
def TX1 : u_T := fun k => match k with
  | 0 => ("PastOnce$Bodies", "kinds", "[I", true)
  | 1 => ("PastOnce$Bodies", "begun", "[I", true)
  | 2 => ("PastOnce$Bodies", "size", "I", false)
  | 3 => ("PastOnce$Bodies", "ran", "I", false)
  | _ => ("PastOnce$Bodies", "me", "I", false)
def tyX1 : Nat → FieldType := fun k => match k with
  | 0 => .array .int
  | 1 => .array .int
  | 2 => .int
  | 3 => .int
  | _ => .int
abbrev wsX10 : List Cond := u_ws RX1 TX1 5
theorem nmX1 : ∀ a, a < 5 → ∀ b, b < 5 → a ≠ b → (TX1 a).2.1 ≠ (TX1 b).2.1 := by decide +kernel
theorem tyX1_ok : ∀ k, k < 5 → parseFieldDescriptor (TX1 k).2.2.1 = some (tyX1 k) := by decide +kernel
abbrev cX1_init : ByteArray := prog_3_method_1_code
def yX1_init : MethodName := ⟨RX1, "<init>", "()V"⟩
abbrev cX1_isFull : ByteArray := prog_3_method_2_code
def yX1_isFull : MethodName := ⟨RX1, "isFull", "()Z"⟩
abbrev cX1_has : ByteArray := prog_3_method_3_code
def yX1_has : MethodName := ⟨RX1, "has", "(I)Z"⟩
abbrev cX1_add : ByteArray := prog_3_method_4_code
def yX1_add : MethodName := ⟨RX1, "add", "(I)I"⟩
abbrev cX1_kindOf : ByteArray := prog_3_method_5_code
def yX1_kindOf : MethodName := ⟨RX1, "kindOf", "(I)I"⟩
abbrev cX1_isUnder : ByteArray := prog_3_method_6_code
def yX1_isUnder : MethodName := ⟨RX1, "isUnder", "(II)Z"⟩
abbrev cX1_forgetTrace : ByteArray := prog_3_method_7_code
def yX1_forgetTrace : MethodName := ⟨RX1, "forgetTrace", "()V"⟩
abbrev cX1_isTraced : ByteArray := prog_3_method_8_code
def yX1_isTraced : MethodName := ⟨RX1, "isTraced", "(I)Z"⟩
abbrev cX1_traced : ByteArray := prog_3_method_9_code
def yX1_traced : MethodName := ⟨RX1, "traced", "(I)I"⟩
abbrev cX1_perform : ByteArray := prog_3_method_10_code
def yX1_perform : MethodName := ⟨RX1, "perform", "(III)I"⟩
abbrev cX1_run : ByteArray := prog_3_method_11_code
def yX1_run : MethodName := ⟨RX1, "run", "(IIII)I"⟩
abbrev cX1_begin : ByteArray := prog_3_method_12_code
def yX1_begin : MethodName := ⟨RX1, "begin", "(I)V"⟩
abbrev cX1_own : ByteArray := prog_3_method_13_code
def yX1_own : MethodName := ⟨RX1, "own", "(III)I"⟩
abbrev cX1_work : ByteArray := prog_3_method_14_code
def yX1_work : MethodName := ⟨RX1, "work", "(IIII)I"⟩
def RX2 : String := "PastOnce$Code"
def TX2 : u_T := fun k => match k with
  | 0 => ("PastOnce$Code", "step", "[I", true)
  | 1 => ("PastOnce$Code", "with", "[I", true)
  | 2 => ("PastOnce$Code", "firstEnd", "[I", true)
  | 3 => ("PastOnce$Code", "lineEnd", "[I", true)
  | 4 => ("PastOnce$Code", "names", "[I", true)
  | 5 => ("PastOnce$Code", "pile", "[I", true)
  | 6 => ("PastOnce$Code", "lines", "I", false)
  | _ => ("PastOnce$Code", "size", "I", false)
def tyX2 : Nat → FieldType := fun k => match k with
  | 0 => .array .int
  | 1 => .array .int
  | 2 => .array .int
  | 3 => .array .int
  | 4 => .array .int
  | 5 => .array .int
  | 6 => .int
  | _ => .int
abbrev wsX20 : List Cond := u_ws RX2 TX2 8
theorem nmX2 : ∀ a, a < 8 → ∀ b, b < 8 → a ≠ b → (TX2 a).2.1 ≠ (TX2 b).2.1 := by decide +kernel
theorem tyX2_ok : ∀ k, k < 8 → parseFieldDescriptor (TX2 k).2.2.1 = some (tyX2 k) := by decide +kernel
abbrev cX2_init : ByteArray := prog_4_method_1_code
def yX2_init : MethodName := ⟨RX2, "<init>", "()V"⟩
abbrev cX2_clear : ByteArray := prog_4_method_2_code
def yX2_clear : MethodName := ⟨RX2, "clear", "()V"⟩
abbrev cX2_nameOf : ByteArray := prog_4_method_3_code
def yX2_nameOf : MethodName := ⟨RX2, "nameOf", "(I)I"⟩
abbrev cX2_setNames : ByteArray := prog_4_method_4_code
def yX2_setNames : MethodName := ⟨RX2, "setNames", "(IIIIII)V"⟩
abbrev cX2_add : ByteArray := prog_4_method_5_code
def yX2_add : MethodName := ⟨RX2, "add", "(II)V"⟩
abbrev cX2_markFirst : ByteArray := prog_4_method_6_code
def yX2_markFirst : MethodName := ⟨RX2, "markFirst", "()V"⟩
abbrev cX2_endLine : ByteArray := prog_4_method_7_code
def yX2_endLine : MethodName := ⟨RX2, "endLine", "()V"⟩
abbrev cX2_work : ByteArray := prog_4_method_8_code
def yX2_work : MethodName := ⟨RX2, "work", "(II)I"⟩
abbrev cX2_join : ByteArray := prog_4_method_9_code
def yX2_join : MethodName := ⟨RX2, "join", "(III)I"⟩
def RX3 : String := "PastOnce$Deed"
def TX3 : u_T := fun k => match k with
  | 0 => ("PastOnce$Deed", "at", "I", false)
  | 1 => ("PastOnce$Deed", "worth", "I", false)
  | 2 => ("PastOnce$Deed", "spoons", "I", false)
  | 3 => ("PastOnce$Deed", "used", "I", false)
  | 4 => ("PastOnce$Deed", "goes", "I", false)
  | 5 => ("PastOnce$Deed", "goesWorth", "I", false)
  | 6 => ("PastOnce$Deed", "here", "I", false)
  | 7 => ("PastOnce$Deed", "sortsHere", "I", false)
  | 8 => ("PastOnce$Deed", "sortsBefore", "I", false)
  | 9 => ("PastOnce$Deed", "ranHere", "I", false)
  | 10 => ("PastOnce$Deed", "ranBefore", "I", false)
  | 11 => ("PastOnce$Deed", "spoonsThere", "[I", true)
  | _ => ("PastOnce$Deed", "dishesThere", "I", false)
def tyX3 : Nat → FieldType := fun k => match k with
  | 0 => .int
  | 1 => .int
  | 2 => .int
  | 3 => .int
  | 4 => .int
  | 5 => .int
  | 6 => .int
  | 7 => .int
  | 8 => .int
  | 9 => .int
  | 10 => .int
  | 11 => .array .int
  | _ => .int
abbrev wsX30 : List Cond := u_ws RX3 TX3 13
theorem nmX3 : ∀ a, a < 13 → ∀ b, b < 13 → a ≠ b → (TX3 a).2.1 ≠ (TX3 b).2.1 := by decide +kernel
theorem tyX3_ok : ∀ k, k < 13 → parseFieldDescriptor (TX3 k).2.2.1 = some (tyX3 k) := by decide +kernel
abbrev cX3_init : ByteArray := prog_5_method_1_code
def yX3_init : MethodName := ⟨RX3, "<init>", "()V"⟩
abbrev cX3_mayTake : ByteArray := prog_5_method_2_code
def yX3_mayTake : MethodName := ⟨RX3, "mayTake", "(LPastOnce$Table;)Z"⟩
abbrev cX3_takeSpoon : ByteArray := prog_5_method_3_code
def yX3_takeSpoon : MethodName := ⟨RX3, "takeSpoon", "(LPastOnce$Table;)I"⟩
abbrev cX3_step : ByteArray := prog_5_method_4_code
def yX3_step : MethodName := ⟨RX3, "step", "(I)I"⟩
abbrev cX3_leaveDish : ByteArray := prog_5_method_5_code
def yX3_leaveDish : MethodName := ⟨RX3, "leaveDish", "()V"⟩
abbrev cX3_startAnew : ByteArray := prog_5_method_6_code
def yX3_startAnew : MethodName := ⟨RX3, "startAnew", "()V"⟩
abbrev cX3_copy : ByteArray := prog_5_method_7_code
def yX3_copy : MethodName := ⟨RX3, "copy", "(LPastOnce$Deed;)V"⟩
abbrev cX3_keepSpoons : ByteArray := prog_5_method_8_code
def yX3_keepSpoons : MethodName := ⟨RX3, "keepSpoons", "(LPastOnce$Table;)V"⟩
abbrev cX3_layBackSpoons : ByteArray := prog_5_method_9_code
def yX3_layBackSpoons : MethodName := ⟨RX3, "layBackSpoons", "(LPastOnce$Table;)V"⟩
def RX4 : String := "PastOnce$Fractions"
def TX4 : u_T := fun k => match k with
  | _ => ("", "", "", false)
def tyX4 : Nat → FieldType := fun k => match k with
  | _ => .int
abbrev wsX40 : List Cond := u_ws RX4 TX4 0
theorem nmX4 : ∀ a, a < 0 → ∀ b, b < 0 → a ≠ b → (TX4 a).2.1 ≠ (TX4 b).2.1 := by decide +kernel
theorem tyX4_ok : ∀ k, k < 0 → parseFieldDescriptor (TX4 k).2.2.1 = some (tyX4 k) := by decide +kernel
abbrev cX4_part : ByteArray := prog_6_method_2_code
def yX4_part : MethodName := ⟨RX4, "part", "(JJI)J"⟩
abbrev cX4_commonDivisor : ByteArray := prog_6_method_3_code
def yX4_commonDivisor : MethodName := ⟨RX4, "commonDivisor", "(JJ)J"⟩
abbrev cX4_power : ByteArray := prog_6_method_4_code
def yX4_power : MethodName := ⟨RX4, "power", "(II)J"⟩
abbrev cX4_likely : ByteArray := prog_6_method_5_code
def yX4_likely : MethodName := ⟨RX4, "likely", "(II)J"⟩
def RX5 : String := "PastOnce$Goer"
def TX5 : u_T := fun k => match k with
  | 0 => ("PastOnce$Goer", "line", "LPastOnce$Line;", true)
  | 1 => ("PastOnce$Goer", "rule", "LPastOnce$Law;", true)
  | 2 => ("PastOnce$Goer", "ahead", "LPastOnce$Ahead;", true)
  | 3 => ("PastOnce$Goer", "got", "[I", true)
  | 4 => ("PastOnce$Goer", "room", "I", false)
  | 5 => ("PastOnce$Goer", "worth", "I", false)
  | 6 => ("PastOnce$Goer", "spoons", "I", false)
  | _ => ("PastOnce$Goer", "signs", "I", false)
def tyX5 : Nat → FieldType := fun k => match k with
  | 0 => .object "PastOnce$Line"
  | 1 => .object "PastOnce$Law"
  | 2 => .object "PastOnce$Ahead"
  | 3 => .array .int
  | 4 => .int
  | 5 => .int
  | 6 => .int
  | _ => .int
abbrev wsX50 : List Cond := u_ws RX5 TX5 8
theorem nmX5 : ∀ a, a < 8 → ∀ b, b < 8 → a ≠ b → (TX5 a).2.1 ≠ (TX5 b).2.1 := by decide +kernel
theorem tyX5_ok : ∀ k, k < 8 → parseFieldDescriptor (TX5 k).2.2.1 = some (tyX5 k) := by decide +kernel
abbrev cX5_init : ByteArray := prog_7_method_1_code
def yX5_init : MethodName := ⟨RX5, "<init>", "(LPastOnce$Line;LPastOnce$Law;)V"⟩
abbrev cX5_start : ByteArray := prog_7_method_2_code
def yX5_start : MethodName := ⟨RX5, "start", "()V"⟩
abbrev cX5_told : ByteArray := prog_7_method_3_code
def yX5_told : MethodName := ⟨RX5, "told", "(I)I"⟩
abbrev cX5_spaceOf : ByteArray := prog_7_method_4_code
def yX5_spaceOf : MethodName := ⟨RX5, "spaceOf", "(I)I"⟩
abbrev cX5_mostOf : ByteArray := prog_7_method_5_code
def yX5_mostOf : MethodName := ⟨RX5, "mostOf", "(I)I"⟩
abbrev cX5_serve : ByteArray := prog_7_method_6_code
def yX5_serve : MethodName := ⟨RX5, "serve", "(II)V"⟩
abbrev cX5_goBy : ByteArray := prog_7_method_7_code
def yX5_goBy : MethodName := ⟨RX5, "goBy", "(I)V"⟩
abbrev cX5_wantedByLaw : ByteArray := prog_7_method_8_code
def yX5_wantedByLaw : MethodName := ⟨RX5, "wantedByLaw", "(I)I"⟩
abbrev cX5_goSeeing : ByteArray := prog_7_method_9_code
def yX5_goSeeing : MethodName := ⟨RX5, "goSeeing", "(I)V"⟩
def RX6 : String := "PastOnce$Law"
def TX6 : u_T := fun k => match k with
  | 0 => ("PastOnce$Law", "tape", "[I", true)
  | 1 => ("PastOnce$Law", "length", "I", false)
  | 2 => ("PastOnce$Law", "at", "I", false)
  | 3 => ("PastOnce$Law", "now", "LPastOnce$Code;", false)
  | 4 => ("PastOnce$Law", "spare", "LPastOnce$Code;", false)
  | _ => ("PastOnce$Law", "told", "Z", false)
def tyX6 : Nat → FieldType := fun k => match k with
  | 0 => .array .int
  | 1 => .int
  | 2 => .int
  | 3 => .object "PastOnce$Code"
  | 4 => .object "PastOnce$Code"
  | _ => .boolean
abbrev wsX60 : List Cond := u_ws RX6 TX6 6
theorem nmX6 : ∀ a, a < 6 → ∀ b, b < 6 → a ≠ b → (TX6 a).2.1 ≠ (TX6 b).2.1 := by decide +kernel
theorem tyX6_ok : ∀ k, k < 6 → parseFieldDescriptor (TX6 k).2.2.1 = some (tyX6 k) := by decide +kernel
abbrev cX6_init : ByteArray := prog_8_method_1_code
def yX6_init : MethodName := ⟨RX6, "<init>", "()V"⟩
abbrev cX6_isTapeFull : ByteArray := prog_8_method_2_code
def yX6_isTapeFull : MethodName := ⟨RX6, "isTapeFull", "()Z"⟩
abbrev cX6_addByte : ByteArray := prog_8_method_3_code
def yX6_addByte : MethodName := ⟨RX6, "addByte", "(I)I"⟩
abbrev cX6_tapeLength : ByteArray := prog_8_method_4_code
def yX6_tapeLength : MethodName := ⟨RX6, "tapeLength", "()I"⟩
abbrev cX6_readTape : ByteArray := prog_8_method_5_code
def yX6_readTape : MethodName := ⟨RX6, "readTape", "()I"⟩
abbrev cX6_verdict : ByteArray := prog_8_method_6_code
def yX6_verdict : MethodName := ⟨RX6, "verdict", "(IIIIII)I"⟩
abbrev cX6_peek : ByteArray := prog_8_method_7_code
def yX6_peek : MethodName := ⟨RX6, "peek", "()I"⟩
abbrev cX6_readLines : ByteArray := prog_8_method_8_code
def yX6_readLines : MethodName := ⟨RX6, "readLines", "()Z"⟩
abbrev cX6_readLine : ByteArray := prog_8_method_9_code
def yX6_readLine : MethodName := ⟨RX6, "readLine", "()Z"⟩
abbrev cX6_readTerm : ByteArray := prog_8_method_10_code
def yX6_readTerm : MethodName := ⟨RX6, "readTerm", "(II)Z"⟩
abbrev cX6_levelOf : ByteArray := prog_8_method_11_code
def yX6_levelOf : MethodName := ⟨RX6, "levelOf", "(I)I"⟩
abbrev cX6_readOperand : ByteArray := prog_8_method_12_code
def yX6_readOperand : MethodName := ⟨RX6, "readOperand", "(I)Z"⟩
abbrev cX6_readClosing : ByteArray := prog_8_method_13_code
def yX6_readClosing : MethodName := ⟨RX6, "readClosing", "()Z"⟩
abbrev cX6_readNumber : ByteArray := prog_8_method_14_code
def yX6_readNumber : MethodName := ⟨RX6, "readNumber", "()V"⟩
def RX7 : String := "PastOnce$Line"
def TX7 : u_T := fun k => match k with
  | 0 => ("PastOnce$Line", "num", "[[I", true)
  | 1 => ("PastOnce$Line", "barred", "[I", true)
  | 2 => ("PastOnce$Line", "size", "I", false)
  | _ => ("PastOnce$Line", "plate", "I", false)
def tyX7 : Nat → FieldType := fun k => match k with
  | 0 => .array (.array .int)
  | 1 => .array .int
  | 2 => .int
  | _ => .int
abbrev wsX70 : List Cond := u_ws RX7 TX7 4
theorem nmX7 : ∀ a, a < 4 → ∀ b, b < 4 → a ≠ b → (TX7 a).2.1 ≠ (TX7 b).2.1 := by decide +kernel
theorem tyX7_ok : ∀ k, k < 4 → parseFieldDescriptor (TX7 k).2.2.1 = some (tyX7 k) := by decide +kernel
abbrev cX7_init : ByteArray := prog_9_method_1_code
def yX7_init : MethodName := ⟨RX7, "<init>", "()V"⟩
abbrev cX7_copy : ByteArray := prog_9_method_2_code
def yX7_copy : MethodName := ⟨RX7, "copy", "(LPastOnce$Table;)V"⟩
abbrev cX7_copyInOrder : ByteArray := prog_9_method_3_code
def yX7_copyInOrder : MethodName := ⟨RX7, "copyInOrder", "(LPastOnce$Table;[I)V"⟩
abbrev cX7_copyRest : ByteArray := prog_9_method_4_code
def yX7_copyRest : MethodName := ⟨RX7, "copyRest", "(LPastOnce$Table;)V"⟩
abbrev cX7_lose : ByteArray := prog_9_method_5_code
def yX7_lose : MethodName := ⟨RX7, "lose", "([I)V"⟩
abbrev cX7_costOf : ByteArray := prog_9_method_6_code
def yX7_costOf : MethodName := ⟨RX7, "costOf", "([I)I"⟩
abbrev cX7_draw : ByteArray := prog_9_method_7_code
def yX7_draw : MethodName := ⟨RX7, "draw", "(I)I"⟩
abbrev cX7_nextOrder : ByteArray := prog_9_method_8_code
def yX7_nextOrder : MethodName := ⟨RX7, "nextOrder", "([II)Z"⟩
abbrev cX7_swap : ByteArray := prog_9_method_9_code
def yX7_swap : MethodName := ⟨RX7, "swap", "([III)V"⟩
def RX8 : String := "PastOnce$Shelves"
def TX8 : u_T := fun k => match k with
  | 0 => ("PastOnce$Shelves", "holds", "[I", true)
  | 1 => ("PastOnce$Shelves", "numbers", "[I", true)
  | 2 => ("PastOnce$Shelves", "sorts", "[I", true)
  | 3 => ("PastOnce$Shelves", "lengths", "[I", true)
  | _ => ("PastOnce$Shelves", "cells", "[J", true)
def tyX8 : Nat → FieldType := fun k => match k with
  | 0 => .array .int
  | 1 => .array .int
  | 2 => .array .int
  | 3 => .array .int
  | _ => .array .long
abbrev wsX80 : List Cond := u_ws RX8 TX8 5
theorem nmX8 : ∀ a, a < 5 → ∀ b, b < 5 → a ≠ b → (TX8 a).2.1 ≠ (TX8 b).2.1 := by decide +kernel
theorem tyX8_ok : ∀ k, k < 5 → parseFieldDescriptor (TX8 k).2.2.1 = some (tyX8 k) := by decide +kernel
abbrev cX8_init : ByteArray := prog_10_method_1_code
def yX8_init : MethodName := ⟨RX8, "<init>", "()V"⟩
abbrev cX8_isShelf : ByteArray := prog_10_method_2_code
def yX8_isShelf : MethodName := ⟨RX8, "isShelf", "(I)Z"⟩
abbrev cX8_isEmpty : ByteArray := prog_10_method_3_code
def yX8_isEmpty : MethodName := ⟨RX8, "isEmpty", "(I)Z"⟩
abbrev cX8_isRow : ByteArray := prog_10_method_4_code
def yX8_isRow : MethodName := ⟨RX8, "isRow", "(I)Z"⟩
abbrev cX8_isBytes : ByteArray := prog_10_method_5_code
def yX8_isBytes : MethodName := ⟨RX8, "isBytes", "(I)Z"⟩
abbrev cX8_bodyOn : ByteArray := prog_10_method_6_code
def yX8_bodyOn : MethodName := ⟨RX8, "bodyOn", "(I)I"⟩
abbrev cX8_length : ByteArray := prog_10_method_7_code
def yX8_length : MethodName := ⟨RX8, "length", "(I)I"⟩
abbrev cX8_holdBody : ByteArray := prog_10_method_8_code
def yX8_holdBody : MethodName := ⟨RX8, "holdBody", "(II)V"⟩
abbrev cX8_holdRow : ByteArray := prog_10_method_9_code
def yX8_holdRow : MethodName := ⟨RX8, "holdRow", "(III)V"⟩
abbrev cX8_refusalOfBytes : ByteArray := prog_10_method_10_code
def yX8_refusalOfBytes : MethodName := ⟨RX8, "refusalOfBytes", "(I)I"⟩
abbrev cX8_refusalOfPlace : ByteArray := prog_10_method_11_code
def yX8_refusalOfPlace : MethodName := ⟨RX8, "refusalOfPlace", "(II)I"⟩
abbrev cX8_refusalOfPair : ByteArray := prog_10_method_12_code
def yX8_refusalOfPair : MethodName := ⟨RX8, "refusalOfPair", "(II)I"⟩
abbrev cX8_hasStretch : ByteArray := prog_10_method_13_code
def yX8_hasStretch : MethodName := ⟨RX8, "hasStretch", "(III)Z"⟩
abbrev cX8_cell : ByteArray := prog_10_method_14_code
def yX8_cell : MethodName := ⟨RX8, "cell", "(II)J"⟩
abbrev cX8_setCell : ByteArray := prog_10_method_15_code
def yX8_setCell : MethodName := ⟨RX8, "setCell", "(IIJ)V"⟩
abbrev cX8_lowBits : ByteArray := prog_10_method_16_code
def yX8_lowBits : MethodName := ⟨RX8, "lowBits", "(IJ)J"⟩
abbrev cX8_copyCells : ByteArray := prog_10_method_17_code
def yX8_copyCells : MethodName := ⟨RX8, "copyCells", "(IIIII)V"⟩
def RX9 : String := "PastOnce$Table"
def TX9 : u_T := fun k => match k with
  | 0 => ("PastOnce$Table", "num", "[[I", true)
  | 1 => ("PastOnce$Table", "bars", "[I", true)
  | 2 => ("PastOnce$Table", "size", "I", false)
  | 3 => ("PastOnce$Table", "plate", "I", false)
  | 4 => ("PastOnce$Table", "numbers", "[I", true)
  | 5 => ("PastOnce$Table", "whats", "[I", true)
  | 6 => ("PastOnce$Table", "was", "[I", true)
  | 7 => ("PastOnce$Table", "became", "[I", true)
  | 8 => ("PastOnce$Table", "done", "I", false)
  | _ => ("PastOnce$Table", "undone", "I", false)
def tyX9 : Nat → FieldType := fun k => match k with
  | 0 => .array (.array .int)
  | 1 => .array .int
  | 2 => .int
  | 3 => .int
  | 4 => .array .int
  | 5 => .array .int
  | 6 => .array .int
  | 7 => .array .int
  | 8 => .int
  | _ => .int
abbrev wsX90 : List Cond := u_ws RX9 TX9 10
theorem nmX9 : ∀ a, a < 10 → ∀ b, b < 10 → a ≠ b → (TX9 a).2.1 ≠ (TX9 b).2.1 := by decide +kernel
theorem tyX9_ok : ∀ k, k < 10 → parseFieldDescriptor (TX9 k).2.2.1 = some (tyX9 k) := by decide +kernel
abbrev cX9_init : ByteArray := prog_11_method_1_code
def yX9_init : MethodName := ⟨RX9, "<init>", "()V"⟩
abbrev cX9_allowed : ByteArray := prog_11_method_2_code
def yX9_allowed : MethodName := ⟨RX9, "allowed", "(II)Z"⟩
abbrev cX9_has : ByteArray := prog_11_method_3_code
def yX9_has : MethodName := ⟨RX9, "has", "(II)Z"⟩
abbrev cX9_add : ByteArray := prog_11_method_4_code
def yX9_add : MethodName := ⟨RX9, "add", "(IIII)I"⟩
abbrev cX9_value : ByteArray := prog_11_method_5_code
def yX9_value : MethodName := ⟨RX9, "value", "(II)I"⟩
abbrev cX9_set : ByteArray := prog_11_method_6_code
def yX9_set : MethodName := ⟨RX9, "set", "(III)V"⟩
abbrev cX9_change : ByteArray := prog_11_method_7_code
def yX9_change : MethodName := ⟨RX9, "change", "(III)I"⟩
abbrev cX9_note : ByteArray := prog_11_method_8_code
def yX9_note : MethodName := ⟨RX9, "note", "(IIII)V"⟩
abbrev cX9_dropOldest : ByteArray := prog_11_method_9_code
def yX9_dropOldest : MethodName := ⟨RX9, "dropOldest", "()V"⟩
abbrev cX9_mayUndo : ByteArray := prog_11_method_10_code
def yX9_mayUndo : MethodName := ⟨RX9, "mayUndo", "()Z"⟩
abbrev cX9_undoLatest : ByteArray := prog_11_method_11_code
def yX9_undoLatest : MethodName := ⟨RX9, "undoLatest", "()I"⟩
abbrev cX9_mayRedo : ByteArray := prog_11_method_12_code
def yX9_mayRedo : MethodName := ⟨RX9, "mayRedo", "()Z"⟩
abbrev cX9_redoNext : ByteArray := prog_11_method_13_code
def yX9_redoNext : MethodName := ⟨RX9, "redoNext", "()I"⟩
abbrev cX9_barred : ByteArray := prog_11_method_14_code
def yX9_barred : MethodName := ⟨RX9, "barred", "(I)I"⟩
abbrev cX9_allSpoons : ByteArray := prog_11_method_15_code
def yX9_allSpoons : MethodName := ⟨RX9, "allSpoons", "()I"⟩
def RX10 : String := "PastOnce"
def TX10 : u_T := fun k => match k with
  | 0 => ("PastOnce", "table", "LPastOnce$Table;", true)
  | 1 => ("PastOnce", "rule", "LPastOnce$Law;", true)
  | 2 => ("PastOnce", "line", "LPastOnce$Line;", true)
  | 3 => ("PastOnce", "goer", "LPastOnce$Goer;", true)
  | 4 => ("PastOnce", "deed", "LPastOnce$Deed;", true)
  | 5 => ("PastOnce", "kept", "LPastOnce$Deed;", true)
  | 6 => ("PastOnce", "bodies", "LPastOnce$Bodies;", true)
  | 7 => ("PastOnce", "shelves", "LPastOnce$Shelves;", true)
  | 8 => ("PastOnce", "order", "[I", true)
  | 9 => ("PastOnce", "bestOrder", "[I", true)
  | _ => ("PastOnce", "imaged", "Z", false)
def tyX10 : Nat → FieldType := fun k => match k with
  | 0 => .object "PastOnce$Table"
  | 1 => .object "PastOnce$Law"
  | 2 => .object "PastOnce$Line"
  | 3 => .object "PastOnce$Goer"
  | 4 => .object "PastOnce$Deed"
  | 5 => .object "PastOnce$Deed"
  | 6 => .object "PastOnce$Bodies"
  | 7 => .object "PastOnce$Shelves"
  | 8 => .array .int
  | 9 => .array .int
  | _ => .boolean
abbrev wsX100 : List Cond := u_ws RX10 TX10 11
theorem nmX10 : ∀ a, a < 11 → ∀ b, b < 11 → a ≠ b → (TX10 a).2.1 ≠ (TX10 b).2.1 := by decide +kernel
theorem tyX10_ok : ∀ k, k < 11 → parseFieldDescriptor (TX10 k).2.2.1 = some (tyX10 k) := by decide +kernel
abbrev cX10_init : ByteArray := prog_1_method_1_code
def yX10_init : MethodName := ⟨RX10, "<init>", "()V"⟩
abbrev cX10_dish : ByteArray := prog_1_method_2_code
def yX10_dish : MethodName := ⟨RX10, "dish", "(II)I"⟩
abbrev cX10_dishes : ByteArray := prog_1_method_3_code
def yX10_dishes : MethodName := ⟨RX10, "dishes", "(III)I"⟩
abbrev cX10_dishFromRow : ByteArray := prog_1_method_4_code
def yX10_dishFromRow : MethodName := ⟨RX10, "dishFromRow", "(II)Z"⟩
abbrev cX10_mend : ByteArray := prog_1_method_5_code
def yX10_mend : MethodName := ⟨RX10, "mend", "(III)I"⟩
abbrev cX10_of : ByteArray := prog_1_method_6_code
def yX10_of : MethodName := ⟨RX10, "of", "(II)I"⟩
abbrev cX10_feed : ByteArray := prog_1_method_7_code
def yX10_feed : MethodName := ⟨RX10, "feed", "(I)I"⟩
abbrev cX10_law : ByteArray := prog_1_method_8_code
def yX10_law : MethodName := ⟨RX10, "law", "()I"⟩
abbrev cX10_isDish : ByteArray := prog_1_method_9_code
def yX10_isDish : MethodName := ⟨RX10, "isDish", "(I)Z"⟩
abbrev cX10_best : ByteArray := prog_1_method_10_code
def yX10_best : MethodName := ⟨RX10, "best", "(I)I"⟩
abbrev cX10_sight : ByteArray := prog_1_method_11_code
def yX10_sight : MethodName := ⟨RX10, "sight", "(II)I"⟩
abbrev cX10_byLaw : ByteArray := prog_1_method_12_code
def yX10_byLaw : MethodName := ⟨RX10, "byLaw", "(I)I"⟩
abbrev cX10_mean : ByteArray := prog_1_method_13_code
def yX10_mean : MethodName := ⟨RX10, "mean", "(I)J"⟩
abbrev cX10_left : ByteArray := prog_1_method_14_code
def yX10_left : MethodName := ⟨RX10, "left", "(II)I"⟩
abbrev cX10_after : ByteArray := prog_1_method_15_code
def yX10_after : MethodName := ⟨RX10, "after", "(II)I"⟩
abbrev cX10_letQueuePass : ByteArray := prog_1_method_16_code
def yX10_letQueuePass : MethodName := ⟨RX10, "letQueuePass", "(I)V"⟩
abbrev cX10_isPair : ByteArray := prog_1_method_17_code
def yX10_isPair : MethodName := ⟨RX10, "isPair", "(II)Z"⟩
abbrev cX10_gone : ByteArray := prog_1_method_18_code
def yX10_gone : MethodName := ⟨RX10, "gone", "(I)I"⟩
abbrev cX10_costOfGuests : ByteArray := prog_1_method_19_code
def yX10_costOfGuests : MethodName := ⟨RX10, "costOfGuests", "(II)I"⟩
abbrev cX10_lay : ByteArray := prog_1_method_20_code
def yX10_lay : MethodName := ⟨RX10, "lay", "(II)I"⟩
abbrev cX10_small : ByteArray := prog_1_method_21_code
def yX10_small : MethodName := ⟨RX10, "small", "(II)I"⟩
abbrev cX10_offers : ByteArray := prog_1_method_22_code
def yX10_offers : MethodName := ⟨RX10, "offers", "(III)J"⟩
abbrev cX10_stop : ByteArray := prog_1_method_23_code
def yX10_stop : MethodName := ⟨RX10, "stop", "(I)I"⟩
abbrev cX10_judge : ByteArray := prog_1_method_24_code
def yX10_judge : MethodName := ⟨RX10, "judge", "(I)I"⟩
abbrev cX10_refusalOfTold : ByteArray := prog_1_method_25_code
def yX10_refusalOfTold : MethodName := ⟨RX10, "refusalOfTold", "(I)I"⟩
abbrev cX10_toldSpoons : ByteArray := prog_1_method_26_code
def yX10_toldSpoons : MethodName := ⟨RX10, "toldSpoons", "(II)I"⟩
abbrev cX10_ways : ByteArray := prog_1_method_27_code
def yX10_ways : MethodName := ⟨RX10, "ways", "(I)I"⟩
abbrev cX10_isJustTold : ByteArray := prog_1_method_28_code
def yX10_isJustTold : MethodName := ⟨RX10, "isJustTold", "(I)Z"⟩
abbrev cX10_drawn : ByteArray := prog_1_method_29_code
def yX10_drawn : MethodName := ⟨RX10, "drawn", "(III)I"⟩
abbrev cX10_take : ByteArray := prog_1_method_30_code
def yX10_take : MethodName := ⟨RX10, "take", "()I"⟩
abbrev cX10_goOn : ByteArray := prog_1_method_31_code
def yX10_goOn : MethodName := ⟨RX10, "goOn", "()I"⟩
abbrev cX10_end : ByteArray := prog_1_method_32_code
def yX10_end : MethodName := ⟨RX10, "end", "()I"⟩
abbrev cX10_led : ByteArray := prog_1_method_33_code
def yX10_led : MethodName := ⟨RX10, "led", "(I)I"⟩
abbrev cX10_image : ByteArray := prog_1_method_34_code
def yX10_image : MethodName := ⟨RX10, "image", "()I"⟩
abbrev cX10_back : ByteArray := prog_1_method_35_code
def yX10_back : MethodName := ⟨RX10, "back", "()I"⟩
abbrev cX10_undo : ByteArray := prog_1_method_36_code
def yX10_undo : MethodName := ⟨RX10, "undo", "()I"⟩
abbrev cX10_redo : ByteArray := prog_1_method_37_code
def yX10_redo : MethodName := ⟨RX10, "redo", "()I"⟩
abbrev cX10_body : ByteArray := prog_1_method_38_code
def yX10_body : MethodName := ⟨RX10, "body", "(I)I"⟩
abbrev cX10_act : ByteArray := prog_1_method_39_code
def yX10_act : MethodName := ⟨RX10, "act", "(III)I"⟩
abbrev cX10_trace : ByteArray := prog_1_method_40_code
def yX10_trace : MethodName := ⟨RX10, "trace", "(I)I"⟩
abbrev cX10_keep : ByteArray := prog_1_method_41_code
def yX10_keep : MethodName := ⟨RX10, "keep", "(II)I"⟩
abbrev cX10_row : ByteArray := prog_1_method_42_code
def yX10_row : MethodName := ⟨RX10, "row", "(III)I"⟩
abbrev cX10_put : ByteArray := prog_1_method_43_code
def yX10_put : MethodName := ⟨RX10, "put", "(IIJ)I"⟩
abbrev cX10_element : ByteArray := prog_1_method_44_code
def yX10_element : MethodName := ⟨RX10, "element", "(II)J"⟩
abbrev cX10_shift : ByteArray := prog_1_method_45_code
def yX10_shift : MethodName := ⟨RX10, "shift", "(IIIII)I"⟩
abbrev cX10_taken : ByteArray := prog_1_method_46_code
def yX10_taken : MethodName := ⟨RX10, "taken", "(II)I"⟩
abbrev cX10_count : ByteArray := prog_1_method_47_code
def yX10_count : MethodName := ⟨RX10, "count", "(I)I"⟩
def RX11 : String := "PastOnceModel"
def TX11 : u_T := fun k => match k with
  | 0 => ("PastOnceModel", "code", "I", false)
  | 1 => ("PastOnceModel", "dishes", "I", false)
  | 2 => ("PastOnceModel", "dish1", "[I", true)
  | 3 => ("PastOnceModel", "plate", "I", false)
  | 4 => ("PastOnceModel", "bars", "[I", true)
  | 5 => ("PastOnceModel", "doneMany", "I", false)
  | 6 => ("PastOnceModel", "undoneMany", "I", false)
  | 7 => ("PastOnceModel", "changeOf", "[I", true)
  | 8 => ("PastOnceModel", "changeAt", "[I", true)
  | 9 => ("PastOnceModel", "before", "[I", true)
  | 10 => ("PastOnceModel", "behind", "[I", true)
  | 11 => ("PastOnceModel", "tape", "[B", true)
  | 12 => ("PastOnceModel", "taped", "I", false)
  | 13 => ("PastOnceModel", "here", "I", false)
  | 14 => ("PastOnceModel", "fault", "I", false)
  | 15 => ("PastOnceModel", "open", "I", false)
  | 16 => ("PastOnceModel", "laid", "I", false)
  | 17 => ("PastOnceModel", "act", "[B", true)
  | 18 => ("PastOnceModel", "with", "[I", true)
  | 19 => ("PastOnceModel", "lineMany", "[I", true)
  | 20 => ("PastOnceModel", "testEnd", "[S", true)
  | 21 => ("PastOnceModel", "lineEnd", "[S", true)
  | 22 => ("PastOnceModel", "facts", "[I", true)
  | 23 => ("PastOnceModel", "pile", "[I", true)
  | 24 => ("PastOnceModel", "hasLaw", "Z", false)
  | 25 => ("PastOnceModel", "storedKey", "[I", true)
  | 26 => ("PastOnceModel", "storedWorth", "[I", true)
  | 27 => ("PastOnceModel", "storedLong", "[I", true)
  | 28 => ("PastOnceModel", "storedLow", "[I", true)
  | 29 => ("PastOnceModel", "run", "I", false)
  | 30 => ("PastOnceModel", "end", "I", false)
  | 31 => ("PastOnceModel", "takes", "[I", true)
  | 32 => ("PastOnceModel", "goWorth", "I", false)
  | 33 => ("PastOnceModel", "goRoom", "I", false)
  | 34 => ("PastOnceModel", "meanTakes", "I", false)
  | 35 => ("PastOnceModel", "keptSpoons", "[I", true)
  | 36 => ("PastOnceModel", "goneNow", "J", false)
  | 37 => ("PastOnceModel", "keptDish", "[I", true)
  | 38 => ("PastOnceModel", "order", "[I", true)
  | 39 => ("PastOnceModel", "bestOrder", "[I", true)
  | 40 => ("PastOnceModel", "leastGone", "I", false)
  | 41 => ("PastOnceModel", "deed", "[I", true)
  | 42 => ("PastOnceModel", "onPlate", "[I", true)
  | 43 => ("PastOnceModel", "sortsOn", "[I", true)
  | 44 => ("PastOnceModel", "runsOn", "[I", true)
  | 45 => ("PastOnceModel", "imageDishes", "I", false)
  | 46 => ("PastOnceModel", "imageDeed", "[I", true)
  | 47 => ("PastOnceModel", "imageRows", "[I", true)
  | 48 => ("PastOnceModel", "bodies", "I", false)
  | 49 => ("PastOnceModel", "kind", "[I", true)
  | 50 => ("PastOnceModel", "traces", "I", false)
  | 51 => ("PastOnceModel", "traced", "[I", true)
  | 52 => ("PastOnceModel", "holds", "[I", true)
  | 53 => ("PastOnceModel", "size", "[I", true)
  | 54 => ("PastOnceModel", "elements", "[J", true)
  | _ => ("PastOnceModel", "shifted", "[J", true)
def tyX11 : Nat → FieldType := fun k => match k with
  | 0 => .int
  | 1 => .int
  | 2 => .array .int
  | 3 => .int
  | 4 => .array .int
  | 5 => .int
  | 6 => .int
  | 7 => .array .int
  | 8 => .array .int
  | 9 => .array .int
  | 10 => .array .int
  | 11 => .array .byte
  | 12 => .int
  | 13 => .int
  | 14 => .int
  | 15 => .int
  | 16 => .int
  | 17 => .array .byte
  | 18 => .array .int
  | 19 => .array .int
  | 20 => .array .short
  | 21 => .array .short
  | 22 => .array .int
  | 23 => .array .int
  | 24 => .boolean
  | 25 => .array .int
  | 26 => .array .int
  | 27 => .array .int
  | 28 => .array .int
  | 29 => .int
  | 30 => .int
  | 31 => .array .int
  | 32 => .int
  | 33 => .int
  | 34 => .int
  | 35 => .array .int
  | 36 => .long
  | 37 => .array .int
  | 38 => .array .int
  | 39 => .array .int
  | 40 => .int
  | 41 => .array .int
  | 42 => .array .int
  | 43 => .array .int
  | 44 => .array .int
  | 45 => .int
  | 46 => .array .int
  | 47 => .array .int
  | 48 => .int
  | 49 => .array .int
  | 50 => .int
  | 51 => .array .int
  | 52 => .array .int
  | 53 => .array .int
  | 54 => .array .long
  | _ => .array .long
abbrev wsX110 : List Cond := u_ws RX11 TX11 56
theorem nmX11 : ∀ a, a < 56 → ∀ b, b < 56 → a ≠ b → (TX11 a).2.1 ≠ (TX11 b).2.1 := by decide +kernel
theorem tyX11_ok : ∀ k, k < 56 → parseFieldDescriptor (TX11 k).2.2.1 = some (tyX11 k) := by decide +kernel
abbrev cX11_init : ByteArray := prog_13_method_1_code
def yX11_init : MethodName := ⟨RX11, "<init>", "()V"⟩
abbrev cX11_in : ByteArray := prog_13_method_3_code
def yX11_in : MethodName := ⟨RX11, "in", "(III)Z"⟩
abbrev cX11_worthAt : ByteArray := prog_13_method_4_code
def yX11_worthAt : MethodName := ⟨RX11, "worthAt", "(I)I"⟩
abbrev cX11_lessAt : ByteArray := prog_13_method_5_code
def yX11_lessAt : MethodName := ⟨RX11, "lessAt", "(I)I"⟩
abbrev cX11_spaceAt : ByteArray := prog_13_method_6_code
def yX11_spaceAt : MethodName := ⟨RX11, "spaceAt", "(I)I"⟩
abbrev cX11_spoonsAt : ByteArray := prog_13_method_7_code
def yX11_spoonsAt : MethodName := ⟨RX11, "spoonsAt", "(I)I"⟩
abbrev cX11_sortAt : ByteArray := prog_13_method_8_code
def yX11_sortAt : MethodName := ⟨RX11, "sortAt", "(I)I"⟩
abbrev cX11_runsAt : ByteArray := prog_13_method_9_code
def yX11_runsAt : MethodName := ⟨RX11, "runsAt", "(I)I"⟩
abbrev cX11_dearAt : ByteArray := prog_13_method_10_code
def yX11_dearAt : MethodName := ⟨RX11, "dearAt", "(I)I"⟩
abbrev cX11_chanceAt : ByteArray := prog_13_method_11_code
def yX11_chanceAt : MethodName := ⟨RX11, "chanceAt", "(I)I"⟩
abbrev cX11_isDish : ByteArray := prog_13_method_12_code
def yX11_isDish : MethodName := ⟨RX11, "isDish", "(I)Z"⟩
abbrev cX11_addDish : ByteArray := prog_13_method_13_code
def yX11_addDish : MethodName := ⟨RX11, "addDish", "(IIII)I"⟩
abbrev cX11_dish : ByteArray := prog_13_method_14_code
def yX11_dish : MethodName := ⟨RX11, "dish", "(II)I"⟩
abbrev cX11_dishes : ByteArray := prog_13_method_15_code
def yX11_dishes : MethodName := ⟨RX11, "dishes", "(III)I"⟩
abbrev cX11_valueAt : ByteArray := prog_13_method_16_code
def yX11_valueAt : MethodName := ⟨RX11, "valueAt", "(II)I"⟩
abbrev cX11_lays : ByteArray := prog_13_method_17_code
def yX11_lays : MethodName := ⟨RX11, "lays", "(III)V"⟩
abbrev cX11_changes : ByteArray := prog_13_method_18_code
def yX11_changes : MethodName := ⟨RX11, "changes", "(III)I"⟩
abbrev cX11_undo : ByteArray := prog_13_method_19_code
def yX11_undo : MethodName := ⟨RX11, "undo", "()I"⟩
abbrev cX11_redo : ByteArray := prog_13_method_20_code
def yX11_redo : MethodName := ⟨RX11, "redo", "()I"⟩
abbrev cX11_isOne : ByteArray := prog_13_method_21_code
def yX11_isOne : MethodName := ⟨RX11, "isOne", "(II)Z"⟩
abbrev cX11_mayBe : ByteArray := prog_13_method_22_code
def yX11_mayBe : MethodName := ⟨RX11, "mayBe", "(II)Z"⟩
abbrev cX11_mend : ByteArray := prog_13_method_23_code
def yX11_mend : MethodName := ⟨RX11, "mend", "(III)I"⟩
abbrev cX11_of : ByteArray := prog_13_method_24_code
def yX11_of : MethodName := ⟨RX11, "of", "(II)I"⟩
abbrev cX11_feed : ByteArray := prog_13_method_25_code
def yX11_feed : MethodName := ⟨RX11, "feed", "(I)I"⟩
abbrev cX11_look : ByteArray := prog_13_method_26_code
def yX11_look : MethodName := ⟨RX11, "look", "()I"⟩
abbrev cX11_faulty : ByteArray := prog_13_method_27_code
def yX11_faulty : MethodName := ⟨RX11, "faulty", "()V"⟩
abbrev cX11_addStep : ByteArray := prog_13_method_28_code
def yX11_addStep : MethodName := ⟨RX11, "addStep", "(II)V"⟩
abbrev cX11_nameOf : ByteArray := prog_13_method_29_code
def yX11_nameOf : MethodName := ⟨RX11, "nameOf", "(I)I"⟩
abbrev cX11_opens : ByteArray := prog_13_method_30_code
def yX11_opens : MethodName := ⟨RX11, "opens", "()Z"⟩
abbrev cX11_figure : ByteArray := prog_13_method_31_code
def yX11_figure : MethodName := ⟨RX11, "figure", "()V"⟩
abbrev cX11_operand : ByteArray := prog_13_method_32_code
def yX11_operand : MethodName := ⟨RX11, "operand", "()V"⟩
abbrev cX11_product : ByteArray := prog_13_method_33_code
def yX11_product : MethodName := ⟨RX11, "product", "()V"⟩
abbrev cX11_sum : ByteArray := prog_13_method_34_code
def yX11_sum : MethodName := ⟨RX11, "sum", "()V"⟩
abbrev cX11_compared : ByteArray := prog_13_method_35_code
def yX11_compared : MethodName := ⟨RX11, "compared", "()V"⟩
abbrev cX11_both : ByteArray := prog_13_method_36_code
def yX11_both : MethodName := ⟨RX11, "both", "()V"⟩
abbrev cX11_either : ByteArray := prog_13_method_37_code
def yX11_either : MethodName := ⟨RX11, "either", "()V"⟩
abbrev cX11_line : ByteArray := prog_13_method_38_code
def yX11_line : MethodName := ⟨RX11, "line", "()V"⟩
abbrev cX11_readText : ByteArray := prog_13_method_39_code
def yX11_readText : MethodName := ⟨RX11, "readText", "(I)I"⟩
abbrev cX11_twoOf : ByteArray := prog_13_method_40_code
def yX11_twoOf : MethodName := ⟨RX11, "twoOf", "(III)I"⟩
abbrev cX11_worked : ByteArray := prog_13_method_41_code
def yX11_worked : MethodName := ⟨RX11, "worked", "(III)I"⟩
abbrev cX11_gives : ByteArray := prog_13_method_42_code
def yX11_gives : MethodName := ⟨RX11, "gives", "(I)I"⟩
abbrev cX11_law : ByteArray := prog_13_method_43_code
def yX11_law : MethodName := ⟨RX11, "law", "()I"⟩
abbrev cX11_isBarred : ByteArray := prog_13_method_44_code
def yX11_isBarred : MethodName := ⟨RX11, "isBarred", "(II)Z"⟩
abbrev cX11_roomOf : ByteArray := prog_13_method_45_code
def yX11_roomOf : MethodName := ⟨RX11, "roomOf", "(II)I"⟩
abbrev cX11_mostOf : ByteArray := prog_13_method_46_code
def yX11_mostOf : MethodName := ⟨RX11, "mostOf", "(IIII)I"⟩
abbrev cX11_worthOf : ByteArray := prog_13_method_47_code
def yX11_worthOf : MethodName := ⟨RX11, "worthOf", "(II)I"⟩
abbrev cX11_sortsWith : ByteArray := prog_13_method_48_code
def yX11_sortsWith : MethodName := ⟨RX11, "sortsWith", "(III)I"⟩
abbrev cX11_runsWith : ByteArray := prog_13_method_49_code
def yX11_runsWith : MethodName := ⟨RX11, "runsWith", "(III)I"⟩
abbrev cX11_beginRun : ByteArray := prog_13_method_50_code
def yX11_beginRun : MethodName := ⟨RX11, "beginRun", "(I)V"⟩
abbrev cX11_keyOf : ByteArray := prog_13_method_51_code
def yX11_keyOf : MethodName := ⟨RX11, "keyOf", "(IIII)I"⟩
abbrev cX11_spotOf : ByteArray := prog_13_method_52_code
def yX11_spotOf : MethodName := ⟨RX11, "spotOf", "(I)I"⟩
abbrev cX11_most : ByteArray := prog_13_method_53_code
def yX11_most : MethodName := ⟨RX11, "most", "(IIII)I"⟩
abbrev cX11_takesBest : ByteArray := prog_13_method_54_code
def yX11_takesBest : MethodName := ⟨RX11, "takesBest", "(IIII)I"⟩
abbrev cX11_takesLaw : ByteArray := prog_13_method_55_code
def yX11_takesLaw : MethodName := ⟨RX11, "takesLaw", "(IIII)I"⟩
abbrev cX11_goBy : ByteArray := prog_13_method_56_code
def yX11_goBy : MethodName := ⟨RX11, "goBy", "(I)V"⟩
abbrev cX11_best : ByteArray := prog_13_method_57_code
def yX11_best : MethodName := ⟨RX11, "best", "(I)I"⟩
abbrev cX11_sight : ByteArray := prog_13_method_58_code
def yX11_sight : MethodName := ⟨RX11, "sight", "(II)I"⟩
abbrev cX11_byLaw : ByteArray := prog_13_method_59_code
def yX11_byLaw : MethodName := ⟨RX11, "byLaw", "(I)I"⟩
abbrev cX11_power : ByteArray := prog_13_method_60_code
def yX11_power : MethodName := ⟨RX11, "power", "(I)J"⟩
abbrev cX11_meanIfThere : ByteArray := prog_13_method_61_code
def yX11_meanIfThere : MethodName := ⟨RX11, "meanIfThere", "(IIII)J"⟩
abbrev cX11_meanFrom : ByteArray := prog_13_method_62_code
def yX11_meanFrom : MethodName := ⟨RX11, "meanFrom", "(IIII)J"⟩
abbrev cX11_asPart : ByteArray := prog_13_method_63_code
def yX11_asPart : MethodName := ⟨RX11, "asPart", "(JJI)J"⟩
abbrev cX11_mean : ByteArray := prog_13_method_64_code
def yX11_mean : MethodName := ⟨RX11, "mean", "(I)J"⟩
abbrev cX11_keepSpoons : ByteArray := prog_13_method_65_code
def yX11_keepSpoons : MethodName := ⟨RX11, "keepSpoons", "()V"⟩
abbrev cX11_laySpoons : ByteArray := prog_13_method_66_code
def yX11_laySpoons : MethodName := ⟨RX11, "laySpoons", "()V"⟩
abbrev cX11_goGuest : ByteArray := prog_13_method_67_code
def yX11_goGuest : MethodName := ⟨RX11, "goGuest", "(I)V"⟩
abbrev cX11_rowFault : ByteArray := prog_13_method_68_code
def yX11_rowFault : MethodName := ⟨RX11, "rowFault", "(I)I"⟩
abbrev cX11_byteAt : ByteArray := prog_13_method_69_code
def yX11_byteAt : MethodName := ⟨RX11, "byteAt", "(II)I"⟩
abbrev cX11_goQueue : ByteArray := prog_13_method_70_code
def yX11_goQueue : MethodName := ⟨RX11, "goQueue", "(I)V"⟩
abbrev cX11_left : ByteArray := prog_13_method_71_code
def yX11_left : MethodName := ⟨RX11, "left", "(II)I"⟩
abbrev cX11_after : ByteArray := prog_13_method_72_code
def yX11_after : MethodName := ⟨RX11, "after", "(II)I"⟩
abbrev cX11_areGuests : ByteArray := prog_13_method_73_code
def yX11_areGuests : MethodName := ⟨RX11, "areGuests", "(I)Z"⟩
abbrev cX11_goneBy : ByteArray := prog_13_method_74_code
def yX11_goneBy : MethodName := ⟨RX11, "goneBy", "(I)I"⟩
abbrev cX11_gone : ByteArray := prog_13_method_75_code
def yX11_gone : MethodName := ⟨RX11, "gone", "(I)I"⟩
abbrev cX11_goOrders : ByteArray := prog_13_method_76_code
def yX11_goOrders : MethodName := ⟨RX11, "goOrders", "(III)V"⟩
abbrev cX11_lay : ByteArray := prog_13_method_77_code
def yX11_lay : MethodName := ⟨RX11, "lay", "(II)I"⟩
abbrev cX11_small : ByteArray := prog_13_method_78_code
def yX11_small : MethodName := ⟨RX11, "small", "(II)I"⟩
abbrev cX11_offerOf : ByteArray := prog_13_method_79_code
def yX11_offerOf : MethodName := ⟨RX11, "offerOf", "(II)J"⟩
abbrev cX11_offers : ByteArray := prog_13_method_80_code
def yX11_offers : MethodName := ⟨RX11, "offers", "(III)J"⟩
abbrev cX11_stop : ByteArray := prog_13_method_81_code
def yX11_stop : MethodName := ⟨RX11, "stop", "(I)I"⟩
abbrev cX11_toldAt : ByteArray := prog_13_method_82_code
def yX11_toldAt : MethodName := ⟨RX11, "toldAt", "(II)I"⟩
abbrev cX11_judge : ByteArray := prog_13_method_83_code
def yX11_judge : MethodName := ⟨RX11, "judge", "(I)I"⟩
abbrev cX11_ways : ByteArray := prog_13_method_84_code
def yX11_ways : MethodName := ⟨RX11, "ways", "(I)I"⟩
abbrev cX11_drawn : ByteArray := prog_13_method_85_code
def yX11_drawn : MethodName := ⟨RX11, "drawn", "(III)I"⟩
abbrev cX11_spoonsOn : ByteArray := prog_13_method_86_code
def yX11_spoonsOn : MethodName := ⟨RX11, "spoonsOn", "()I"⟩
abbrev cX11_emptyPlate : ByteArray := prog_13_method_87_code
def yX11_emptyPlate : MethodName := ⟨RX11, "emptyPlate", "()V"⟩
abbrev cX11_take : ByteArray := prog_13_method_88_code
def yX11_take : MethodName := ⟨RX11, "take", "()I"⟩
abbrev cX11_goOn : ByteArray := prog_13_method_89_code
def yX11_goOn : MethodName := ⟨RX11, "goOn", "()I"⟩
abbrev cX11_end : ByteArray := prog_13_method_90_code
def yX11_end : MethodName := ⟨RX11, "end", "()I"⟩
abbrev cX11_led : ByteArray := prog_13_method_91_code
def yX11_led : MethodName := ⟨RX11, "led", "(I)I"⟩
abbrev cX11_image : ByteArray := prog_13_method_92_code
def yX11_image : MethodName := ⟨RX11, "image", "()I"⟩
abbrev cX11_back : ByteArray := prog_13_method_93_code
def yX11_back : MethodName := ⟨RX11, "back", "()I"⟩
abbrev cX11_allSpoons : ByteArray := prog_13_method_94_code
def yX11_allSpoons : MethodName := ⟨RX11, "allSpoons", "()I"⟩
abbrev cX11_isBody : ByteArray := prog_13_method_95_code
def yX11_isBody : MethodName := ⟨RX11, "isBody", "(I)Z"⟩
abbrev cX11_ran : ByteArray := prog_13_method_96_code
def yX11_ran : MethodName := ⟨RX11, "ran", "(I)V"⟩
abbrev cX11_trace : ByteArray := prog_13_method_97_code
def yX11_trace : MethodName := ⟨RX11, "trace", "(I)I"⟩
abbrev cX11_body : ByteArray := prog_13_method_98_code
def yX11_body : MethodName := ⟨RX11, "body", "(I)I"⟩
abbrev cX11_isUnder : ByteArray := prog_13_method_99_code
def yX11_isUnder : MethodName := ⟨RX11, "isUnder", "(II)Z"⟩
abbrev cX11_plainTakes : ByteArray := prog_13_method_100_code
def yX11_plainTakes : MethodName := ⟨RX11, "plainTakes", "(II)I"⟩
abbrev cX11_againTakes : ByteArray := prog_13_method_101_code
def yX11_againTakes : MethodName := ⟨RX11, "againTakes", "(II)I"⟩
abbrev cX11_taking : ByteArray := prog_13_method_102_code
def yX11_taking : MethodName := ⟨RX11, "taking", "(II)I"⟩
abbrev cX11_plainGoes : ByteArray := prog_13_method_103_code
def yX11_plainGoes : MethodName := ⟨RX11, "plainGoes", "(II)I"⟩
abbrev cX11_shyGoes : ByteArray := prog_13_method_104_code
def yX11_shyGoes : MethodName := ⟨RX11, "shyGoes", "(II)I"⟩
abbrev cX11_goesNow : ByteArray := prog_13_method_105_code
def yX11_goesNow : MethodName := ⟨RX11, "goesNow", "(II)I"⟩
abbrev cX11_plainSees : ByteArray := prog_13_method_106_code
def yX11_plainSees : MethodName := ⟨RX11, "plainSees", "(II)I"⟩
abbrev cX11_farSees : ByteArray := prog_13_method_107_code
def yX11_farSees : MethodName := ⟨RX11, "farSees", "(II)I"⟩
abbrev cX11_seeing : ByteArray := prog_13_method_108_code
def yX11_seeing : MethodName := ⟨RX11, "seeing", "(II)I"⟩
abbrev cX11_plainTells : ByteArray := prog_13_method_109_code
def yX11_plainTells : MethodName := ⟨RX11, "plainTells", "(II)I"⟩
abbrev cX11_telling : ByteArray := prog_13_method_110_code
def yX11_telling : MethodName := ⟨RX11, "telling", "(II)I"⟩
abbrev cX11_act : ByteArray := prog_13_method_111_code
def yX11_act : MethodName := ⟨RX11, "act", "(III)I"⟩
abbrev cX11_count : ByteArray := prog_13_method_112_code
def yX11_count : MethodName := ⟨RX11, "count", "(I)I"⟩
abbrev cX11_isShelf : ByteArray := prog_13_method_113_code
def yX11_isShelf : MethodName := ⟨RX11, "isShelf", "(I)Z"⟩
abbrev cX11_keep : ByteArray := prog_13_method_114_code
def yX11_keep : MethodName := ⟨RX11, "keep", "(II)I"⟩
abbrev cX11_row : ByteArray := prog_13_method_115_code
def yX11_row : MethodName := ⟨RX11, "row", "(III)I"⟩
abbrev cX11_whyNoPlace : ByteArray := prog_13_method_116_code
def yX11_whyNoPlace : MethodName := ⟨RX11, "whyNoPlace", "(II)I"⟩
abbrev cX11_put : ByteArray := prog_13_method_117_code
def yX11_put : MethodName := ⟨RX11, "put", "(IIJ)I"⟩
abbrev cX11_element : ByteArray := prog_13_method_118_code
def yX11_element : MethodName := ⟨RX11, "element", "(II)J"⟩
abbrev cX11_shift : ByteArray := prog_13_method_119_code
def yX11_shift : MethodName := ⟨RX11, "shift", "(IIIII)I"⟩
abbrev cX11_taken : ByteArray := prog_13_method_120_code
def yX11_taken : MethodName := ⟨RX11, "taken", "(II)I"⟩
def RJx8e188 : String := "java/lang/Cloneable"
def TJx8e188 : u_T := fun k => match k with
  | _ => ("", "", "", false)
def tyJx8e188 : Nat → FieldType := fun k => match k with
  | _ => .int
abbrev wsJx8e1880 : List Cond := u_ws RJx8e188 TJx8e188 0
theorem nmJx8e188 : ∀ a, a < 0 → ∀ b, b < 0 → a ≠ b → (TJx8e188 a).2.1 ≠ (TJx8e188 b).2.1 := by decide +kernel
theorem tyJx8e188_ok : ∀ k, k < 0 → parseFieldDescriptor (TJx8e188 k).2.2.1 = some (tyJx8e188 k) := by decide +kernel
def RJ9 : String := "java/lang/Math"
def TJ9 : u_T := fun k => match k with
  | _ => ("", "", "", false)
def tyJ9 : Nat → FieldType := fun k => match k with
  | _ => .int
abbrev wsJ90 : List Cond := u_ws RJ9 TJ9 0
theorem nmJ9 : ∀ a, a < 0 → ∀ b, b < 0 → a ≠ b → (TJ9 a).2.1 ≠ (TJ9 b).2.1 := by decide +kernel
theorem tyJ9_ok : ∀ k, k < 0 → parseFieldDescriptor (TJ9 k).2.2.1 = some (tyJ9 k) := by decide +kernel
abbrev cJ9_min_7cf53 : ByteArray := prog_15_method_69_code
def yJ9_min_7cf53 : MethodName := ⟨RJ9, "min", "(II)I"⟩
def RJ10 : String := "java/lang/System"
def TJ10 : u_T := fun k => match k with
  | _ => ("", "", "", false)
def tyJ10 : Nat → FieldType := fun k => match k with
  | _ => .int
abbrev wsJ100 : List Cond := u_ws RJ10 TJ10 0
theorem nmJ10 : ∀ a, a < 0 → ∀ b, b < 0 → a ≠ b → (TJ10 a).2.1 ≠ (TJ10 b).2.1 := by decide +kernel
theorem tyJ10_ok : ∀ k, k < 0 → parseFieldDescriptor (TJ10 k).2.2.1 = some (tyJ10 k) := by decide +kernel
def RJ7 : String := "java/util/Arrays"
def TJ7 : u_T := fun k => match k with
  | _ => ("", "", "", false)
def tyJ7 : Nat → FieldType := fun k => match k with
  | _ => .int
abbrev wsJ70 : List Cond := u_ws RJ7 TJ7 0
theorem nmJ7 : ∀ a, a < 0 → ∀ b, b < 0 → a ≠ b → (TJ7 a).2.1 ≠ (TJ7 b).2.1 := by decide +kernel
theorem tyJ7_ok : ∀ k, k < 0 → parseFieldDescriptor (TJ7 k).2.2.1 = some (tyJ7 k) := by decide +kernel
abbrev cJ7_fill_d0a16 : ByteArray := prog_17_method_101_code
def yJ7_fill_d0a16 : MethodName := ⟨RJ7, "fill", "([JJ)V"⟩
abbrev cJ7_fill_53178 : ByteArray := prog_17_method_103_code
def yJ7_fill_53178 : MethodName := ⟨RJ7, "fill", "([II)V"⟩
abbrev cJ7_copyOf_c38d5 : ByteArray := prog_17_method_124_code
def yJ7_copyOf_c38d5 : MethodName := ⟨RJ7, "copyOf", "([JI)[J"⟩
def RL : String := "PastOnceLaw"
abbrev cL_law : ByteArray := code
def yL_law : MethodName := ⟨RL, "law", "([I)Z"⟩
abbrev vwCl : List vw_C := [(RX0, TX0, 10), (RX1, TX1, 5), (RX2, TX2, 8), (RX3, TX3, 13), (RX5, TX5, 8), (RX6, TX6, 6), (RX7, TX7, 4), (RX8, TX8, 5), (RX9, TX9, 10), (RX10, TX10, 11), (RX11, TX11, 56)]
