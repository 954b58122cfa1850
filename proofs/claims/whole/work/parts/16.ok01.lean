set_option maxRecDepth 100000 in
theorem ok_X2_nameOf : tb_X2_nameOf.all (mc_okE PM (yX2_nameOf, cX2_nameOf, 1, some .int, tb_X2_nameOf)) = true := by decide +kernel
set_option maxRecDepth 100000 in
theorem ok_X2_setNames : tb_X2_setNames.all (mc_okE PM (yX2_setNames, cX2_setNames, 7, none, tb_X2_setNames)) = true := by decide +kernel
set_option maxRecDepth 100000 in
theorem ok_X2_add : tb_X2_add.all (mc_okE PM (yX2_add, cX2_add, 3, none, tb_X2_add)) = true := by decide +kernel
set_option maxRecDepth 100000 in
theorem ok_X2_markFirst : tb_X2_markFirst.all (mc_okE PM (yX2_markFirst, cX2_markFirst, 1, none, tb_X2_markFirst)) = true := by decide +kernel
set_option maxRecDepth 100000 in
theorem ok_X2_endLine : tb_X2_endLine.all (mc_okE PM (yX2_endLine, cX2_endLine, 1, none, tb_X2_endLine)) = true := by decide +kernel
set_option maxRecDepth 100000 in
theorem ok_X2_work : tb_X2_work.all (mc_okE PM (yX2_work, cX2_work, 7, some .int, tb_X2_work)) = true := by decide +kernel
set_option maxRecDepth 100000 in
theorem ok_X2_join : tb_X2_join.all (mc_okE PM (yX2_join, cX2_join, 3, some .int, tb_X2_join)) = true := by decide +kernel
set_option maxRecDepth 100000 in
theorem ok_X3_init : tb_X3_init.all (mc_okE PM (yX3_init, cX3_init, 1, none, tb_X3_init)) = true := by decide +kernel
set_option maxRecDepth 100000 in
theorem ok_X3_mayTake : tb_X3_mayTake.all (mc_okE PM (yX3_mayTake, cX3_mayTake, 2, some .boolean, tb_X3_mayTake)) = true := by decide +kernel
set_option maxRecDepth 100000 in
theorem ok_X3_takeSpoon : tb_X3_takeSpoon.all (mc_okE PM (yX3_takeSpoon, cX3_takeSpoon, 3, some .int, tb_X3_takeSpoon)) = true := by decide +kernel
set_option maxRecDepth 100000 in
theorem ok_X3_step : tb_X3_step.all (mc_okE PM (yX3_step, cX3_step, 2, some .int, tb_X3_step)) = true := by decide +kernel
set_option maxRecDepth 100000 in
theorem ok_X3_leaveDish : tb_X3_leaveDish.all (mc_okE PM (yX3_leaveDish, cX3_leaveDish, 1, none, tb_X3_leaveDish)) = true := by decide +kernel
set_option maxRecDepth 100000 in
theorem ok_X3_startAnew : tb_X3_startAnew.all (mc_okE PM (yX3_startAnew, cX3_startAnew, 1, none, tb_X3_startAnew)) = true := by decide +kernel
set_option maxRecDepth 100000 in
theorem ok_X3_copy : tb_X3_copy.all (mc_okE PM (yX3_copy, cX3_copy, 2, none, tb_X3_copy)) = true := by decide +kernel
set_option maxRecDepth 100000 in
theorem ok_X3_keepSpoons : tb_X3_keepSpoons.all (mc_okE PM (yX3_keepSpoons, cX3_keepSpoons, 2, none, tb_X3_keepSpoons)) = true := by decide +kernel
set_option maxRecDepth 100000 in
theorem ok_X3_layBackSpoons : tb_X3_layBackSpoons.all (mc_okE PM (yX3_layBackSpoons, cX3_layBackSpoons, 2, none, tb_X3_layBackSpoons)) = true := by decide +kernel
set_option maxRecDepth 100000 in
theorem ok_X4_part : tb_X4_part.all (mc_okE PM (yX4_part, cX4_part, 7, some .long, tb_X4_part)) = true := by decide +kernel
set_option maxRecDepth 100000 in
theorem ok_X4_commonDivisor : tb_X4_commonDivisor.all (mc_okE PM (yX4_commonDivisor, cX4_commonDivisor, 11, some .long, tb_X4_commonDivisor)) = true := by decide +kernel
set_option maxRecDepth 100000 in
theorem ok_X4_power : tb_X4_power.all (mc_okE PM (yX4_power, cX4_power, 5, some .long, tb_X4_power)) = true := by decide +kernel
set_option maxRecDepth 100000 in
theorem ok_X4_likely : tb_X4_likely.all (mc_okE PM (yX4_likely, cX4_likely, 5, some .long, tb_X4_likely)) = true := by decide +kernel
set_option maxRecDepth 100000 in
theorem ok_X5_init : tb_X5_init.all (mc_okE PM (yX5_init, cX5_init, 3, none, tb_X5_init)) = true := by decide +kernel
set_option maxRecDepth 100000 in
theorem ok_X5_start : tb_X5_start.all (mc_okE PM (yX5_start, cX5_start, 1, none, tb_X5_start)) = true := by decide +kernel
set_option maxRecDepth 100000 in
theorem ok_X5_told : tb_X5_told.all (mc_okE PM (yX5_told, cX5_told, 2, some .int, tb_X5_told)) = true := by decide +kernel
set_option maxRecDepth 100000 in
theorem ok_X5_spaceOf : tb_X5_spaceOf.all (mc_okE PM (yX5_spaceOf, cX5_spaceOf, 2, some .int, tb_X5_spaceOf)) = true := by decide +kernel
theorem pm_ok_1 : ∀ q ∈ pm_1, q.2.2.2.2.all (mc_okE PM q) = true := List.forall_mem_cons.mpr ⟨ok_X2_nameOf, List.forall_mem_cons.mpr ⟨ok_X2_setNames, List.forall_mem_cons.mpr ⟨ok_X2_add, List.forall_mem_cons.mpr ⟨ok_X2_markFirst, List.forall_mem_cons.mpr ⟨ok_X2_endLine, List.forall_mem_cons.mpr ⟨ok_X2_work, List.forall_mem_cons.mpr ⟨ok_X2_join, List.forall_mem_cons.mpr ⟨ok_X3_init, List.forall_mem_cons.mpr ⟨ok_X3_mayTake, List.forall_mem_cons.mpr ⟨ok_X3_takeSpoon, List.forall_mem_cons.mpr ⟨ok_X3_step, List.forall_mem_cons.mpr ⟨ok_X3_leaveDish, List.forall_mem_cons.mpr ⟨ok_X3_startAnew, List.forall_mem_cons.mpr ⟨ok_X3_copy, List.forall_mem_cons.mpr ⟨ok_X3_keepSpoons, List.forall_mem_cons.mpr ⟨ok_X3_layBackSpoons, List.forall_mem_cons.mpr ⟨ok_X4_part, List.forall_mem_cons.mpr ⟨ok_X4_commonDivisor, List.forall_mem_cons.mpr ⟨ok_X4_power, List.forall_mem_cons.mpr ⟨ok_X4_likely, List.forall_mem_cons.mpr ⟨ok_X5_init, List.forall_mem_cons.mpr ⟨ok_X5_start, List.forall_mem_cons.mpr ⟨ok_X5_told, List.forall_mem_cons.mpr ⟨ok_X5_spaceOf, fun _ h => absurd h List.not_mem_nil⟩⟩⟩⟩⟩⟩⟩⟩⟩⟩⟩⟩⟩⟩⟩⟩⟩⟩⟩⟩⟩⟩⟩⟩
