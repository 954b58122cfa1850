theorem mc_PM : ∀ y, (PM y).2.2.2.2.all (mc_okE PM (PM y)) = true := by
  have hall : ∀ q ∈ pm_all, q.2.2.2.2.all (mc_okE PM q) = true := by
    unfold pm_all
    exact List.forall_mem_append.mpr ⟨pm_ok_0, List.forall_mem_append.mpr ⟨pm_ok_1, List.forall_mem_append.mpr ⟨pm_ok_2, List.forall_mem_append.mpr ⟨pm_ok_3, List.forall_mem_append.mpr ⟨pm_ok_4, List.forall_mem_append.mpr ⟨pm_ok_5, List.forall_mem_append.mpr ⟨pm_ok_6, List.forall_mem_append.mpr ⟨pm_ok_7, List.forall_mem_append.mpr ⟨pm_ok_8, List.forall_mem_append.mpr ⟨pm_ok_9, List.forall_mem_append.mpr ⟨pm_ok_10, pm_ok_11⟩⟩⟩⟩⟩⟩⟩⟩⟩⟩⟩
  intro y
  unfold PM
  cases hq : pm_all[y]? with
  | none => exact ok_X0_init
  | some q => exact hall q (List.mem_of_getElem? hq)
theorem mc_PMplain : ∀ y, plainFor (PM y).1 = true := by
  have hall : pm_all.all (fun q => plainFor q.1) = true := by decide +kernel
  intro y
  unfold PM
  cases hq : pm_all[y]? with
  | none => decide +kernel
  | some q => exact List.all_eq_true.mp hall q (List.mem_of_getElem? hq)
set_option maxRecDepth 100000 in
theorem mc_cls0 : (∀ w ∈ u_ws RX0 TX0 10, w ∈ mc_gw) ∧ (∀ k, k < 10 → parseFieldDescriptor (TX0 k).2.2.1 = some (mc_ft TX0 k)) ∧ ∀ a, a < 10 → ∀ b, b < 10 → a ≠ b → (TX0 a).2.1 ≠ (TX0 b).2.1 := ⟨by decide +kernel, by decide +kernel, nmX0⟩
set_option maxRecDepth 100000 in
theorem mc_cls1 : (∀ w ∈ u_ws RX1 TX1 5, w ∈ mc_gw) ∧ (∀ k, k < 5 → parseFieldDescriptor (TX1 k).2.2.1 = some (mc_ft TX1 k)) ∧ ∀ a, a < 5 → ∀ b, b < 5 → a ≠ b → (TX1 a).2.1 ≠ (TX1 b).2.1 := ⟨by decide +kernel, by decide +kernel, nmX1⟩
set_option maxRecDepth 100000 in
theorem mc_cls2 : (∀ w ∈ u_ws RX2 TX2 8, w ∈ mc_gw) ∧ (∀ k, k < 8 → parseFieldDescriptor (TX2 k).2.2.1 = some (mc_ft TX2 k)) ∧ ∀ a, a < 8 → ∀ b, b < 8 → a ≠ b → (TX2 a).2.1 ≠ (TX2 b).2.1 := ⟨by decide +kernel, by decide +kernel, nmX2⟩
set_option maxRecDepth 100000 in
theorem mc_cls3 : (∀ w ∈ u_ws RX3 TX3 13, w ∈ mc_gw) ∧ (∀ k, k < 13 → parseFieldDescriptor (TX3 k).2.2.1 = some (mc_ft TX3 k)) ∧ ∀ a, a < 13 → ∀ b, b < 13 → a ≠ b → (TX3 a).2.1 ≠ (TX3 b).2.1 := ⟨by decide +kernel, by decide +kernel, nmX3⟩
set_option maxRecDepth 100000 in
theorem mc_cls4 : (∀ w ∈ u_ws RX5 TX5 8, w ∈ mc_gw) ∧ (∀ k, k < 8 → parseFieldDescriptor (TX5 k).2.2.1 = some (mc_ft TX5 k)) ∧ ∀ a, a < 8 → ∀ b, b < 8 → a ≠ b → (TX5 a).2.1 ≠ (TX5 b).2.1 := ⟨by decide +kernel, by decide +kernel, nmX5⟩
set_option maxRecDepth 100000 in
theorem mc_cls5 : (∀ w ∈ u_ws RX6 TX6 6, w ∈ mc_gw) ∧ (∀ k, k < 6 → parseFieldDescriptor (TX6 k).2.2.1 = some (mc_ft TX6 k)) ∧ ∀ a, a < 6 → ∀ b, b < 6 → a ≠ b → (TX6 a).2.1 ≠ (TX6 b).2.1 := ⟨by decide +kernel, by decide +kernel, nmX6⟩
set_option maxRecDepth 100000 in
theorem mc_cls6 : (∀ w ∈ u_ws RX7 TX7 4, w ∈ mc_gw) ∧ (∀ k, k < 4 → parseFieldDescriptor (TX7 k).2.2.1 = some (mc_ft TX7 k)) ∧ ∀ a, a < 4 → ∀ b, b < 4 → a ≠ b → (TX7 a).2.1 ≠ (TX7 b).2.1 := ⟨by decide +kernel, by decide +kernel, nmX7⟩
set_option maxRecDepth 100000 in
theorem mc_cls7 : (∀ w ∈ u_ws RX8 TX8 5, w ∈ mc_gw) ∧ (∀ k, k < 5 → parseFieldDescriptor (TX8 k).2.2.1 = some (mc_ft TX8 k)) ∧ ∀ a, a < 5 → ∀ b, b < 5 → a ≠ b → (TX8 a).2.1 ≠ (TX8 b).2.1 := ⟨by decide +kernel, by decide +kernel, nmX8⟩
set_option maxRecDepth 100000 in
theorem mc_cls8 : (∀ w ∈ u_ws RX9 TX9 10, w ∈ mc_gw) ∧ (∀ k, k < 10 → parseFieldDescriptor (TX9 k).2.2.1 = some (mc_ft TX9 k)) ∧ ∀ a, a < 10 → ∀ b, b < 10 → a ≠ b → (TX9 a).2.1 ≠ (TX9 b).2.1 := ⟨by decide +kernel, by decide +kernel, nmX9⟩
set_option maxRecDepth 100000 in
theorem mc_cls9 : (∀ w ∈ u_ws RX10 TX10 11, w ∈ mc_gw) ∧ (∀ k, k < 11 → parseFieldDescriptor (TX10 k).2.2.1 = some (mc_ft TX10 k)) ∧ ∀ a, a < 11 → ∀ b, b < 11 → a ≠ b → (TX10 a).2.1 ≠ (TX10 b).2.1 := ⟨by decide +kernel, by decide +kernel, nmX10⟩
set_option maxRecDepth 100000 in
theorem mc_cls10 : (∀ w ∈ u_ws RX11 TX11 56, w ∈ mc_gw) ∧ (∀ k, k < 56 → parseFieldDescriptor (TX11 k).2.2.1 = some (mc_ft TX11 k)) ∧ ∀ a, a < 56 → ∀ b, b < 56 → a ≠ b → (TX11 a).2.1 ≠ (TX11 b).2.1 := ⟨by decide +kernel, by decide +kernel, nmX11⟩
theorem mc_cls : mc_Cls := by
  intro ci q hq
  match ci, hq with
  | 0, hq => cases hq; exact mc_cls0
  | 1, hq => cases hq; exact mc_cls1
  | 2, hq => cases hq; exact mc_cls2
  | 3, hq => cases hq; exact mc_cls3
  | 4, hq => cases hq; exact mc_cls4
  | 5, hq => cases hq; exact mc_cls5
  | 6, hq => cases hq; exact mc_cls6
  | 7, hq => cases hq; exact mc_cls7
  | 8, hq => cases hq; exact mc_cls8
  | 9, hq => cases hq; exact mc_cls9
  | 10, hq => cases hq; exact mc_cls10
  | k + 11, hq => simp [vwCl] at hq
