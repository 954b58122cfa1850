set_option maxRecDepth 100000 in
theorem ok_X9_add : tb_X9_add.all (mc_okE PM (yX9_add, cX9_add, 6, some .int, tb_X9_add)) = true := by decide +kernel
set_option maxRecDepth 100000 in
theorem ok_X9_value : tb_X9_value.all (mc_okE PM (yX9_value, cX9_value, 3, some .int, tb_X9_value)) = true := by decide +kernel
set_option maxRecDepth 100000 in
theorem ok_X9_set : tb_X9_set.all (mc_okE PM (yX9_set, cX9_set, 4, none, tb_X9_set)) = true := by decide +kernel
set_option maxRecDepth 100000 in
theorem ok_X9_change : tb_X9_change.all (mc_okE PM (yX9_change, cX9_change, 5, some .int, tb_X9_change)) = true := by decide +kernel
set_option maxRecDepth 100000 in
theorem ok_X9_note : tb_X9_note.all (mc_okE PM (yX9_note, cX9_note, 5, none, tb_X9_note)) = true := by decide +kernel
set_option maxRecDepth 100000 in
theorem ok_X9_dropOldest : tb_X9_dropOldest.all (mc_okE PM (yX9_dropOldest, cX9_dropOldest, 1, none, tb_X9_dropOldest)) = true := by decide +kernel
set_option maxRecDepth 100000 in
theorem ok_X9_mayUndo : tb_X9_mayUndo.all (mc_okE PM (yX9_mayUndo, cX9_mayUndo, 1, some .boolean, tb_X9_mayUndo)) = true := by decide +kernel
set_option maxRecDepth 100000 in
theorem ok_X9_undoLatest : tb_X9_undoLatest.all (mc_okE PM (yX9_undoLatest, cX9_undoLatest, 1, some .int, tb_X9_undoLatest)) = true := by decide +kernel
set_option maxRecDepth 100000 in
theorem ok_X9_mayRedo : tb_X9_mayRedo.all (mc_okE PM (yX9_mayRedo, cX9_mayRedo, 1, some .boolean, tb_X9_mayRedo)) = true := by decide +kernel
set_option maxRecDepth 100000 in
theorem ok_X9_redoNext : tb_X9_redoNext.all (mc_okE PM (yX9_redoNext, cX9_redoNext, 1, some .int, tb_X9_redoNext)) = true := by decide +kernel
set_option maxRecDepth 100000 in
theorem ok_X9_barred : tb_X9_barred.all (mc_okE PM (yX9_barred, cX9_barred, 4, some .int, tb_X9_barred)) = true := by decide +kernel
set_option maxRecDepth 100000 in
theorem ok_X9_allSpoons : tb_X9_allSpoons.all (mc_okE PM (yX9_allSpoons, cX9_allSpoons, 3, some .int, tb_X9_allSpoons)) = true := by decide +kernel
set_option maxRecDepth 100000 in
theorem ok_X10_init : tb_X10_init.all (mc_okE PM (yX10_init, cX10_init, 1, none, tb_X10_init)) = true := by decide +kernel
set_option maxRecDepth 100000 in
theorem ok_X10_dish : tb_X10_dish.all (mc_okE PM (yX10_dish, cX10_dish, 3, some .int, tb_X10_dish)) = true := by decide +kernel
set_option maxRecDepth 100000 in
theorem ok_X10_dishes : tb_X10_dishes.all (mc_okE PM (yX10_dishes, cX10_dishes, 5, some .int, tb_X10_dishes)) = true := by decide +kernel
set_option maxRecDepth 100000 in
theorem ok_X10_dishFromRow : tb_X10_dishFromRow.all (mc_okE PM (yX10_dishFromRow, cX10_dishFromRow, 7, some .boolean, tb_X10_dishFromRow)) = true := by decide +kernel
set_option maxRecDepth 100000 in
theorem ok_X10_mend : tb_X10_mend.all (mc_okE PM (yX10_mend, cX10_mend, 4, some .int, tb_X10_mend)) = true := by decide +kernel
set_option maxRecDepth 100000 in
theorem ok_X10_of : tb_X10_of.all (mc_okE PM (yX10_of, cX10_of, 3, some .int, tb_X10_of)) = true := by decide +kernel
set_option maxRecDepth 100000 in
theorem ok_X10_feed : tb_X10_feed.all (mc_okE PM (yX10_feed, cX10_feed, 2, some .int, tb_X10_feed)) = true := by decide +kernel
set_option maxRecDepth 100000 in
theorem ok_X10_law : tb_X10_law.all (mc_okE PM (yX10_law, cX10_law, 1, some .int, tb_X10_law)) = true := by decide +kernel
set_option maxRecDepth 100000 in
theorem ok_X10_isDish : tb_X10_isDish.all (mc_okE PM (yX10_isDish, cX10_isDish, 2, some .boolean, tb_X10_isDish)) = true := by decide +kernel
set_option maxRecDepth 100000 in
theorem ok_X10_best : tb_X10_best.all (mc_okE PM (yX10_best, cX10_best, 2, some .int, tb_X10_best)) = true := by decide +kernel
set_option maxRecDepth 100000 in
theorem ok_X10_sight : tb_X10_sight.all (mc_okE PM (yX10_sight, cX10_sight, 3, some .int, tb_X10_sight)) = true := by decide +kernel
set_option maxRecDepth 100000 in
theorem ok_X10_byLaw : tb_X10_byLaw.all (mc_okE PM (yX10_byLaw, cX10_byLaw, 2, some .int, tb_X10_byLaw)) = true := by decide +kernel
theorem pm_ok_4 : ∀ q ∈ pm_4, q.2.2.2.2.all (mc_okE PM q) = true := List.forall_mem_cons.mpr ⟨ok_X9_add, List.forall_mem_cons.mpr ⟨ok_X9_value, List.forall_mem_cons.mpr ⟨ok_X9_set, List.forall_mem_cons.mpr ⟨ok_X9_change, List.forall_mem_cons.mpr ⟨ok_X9_note, List.forall_mem_cons.mpr ⟨ok_X9_dropOldest, List.forall_mem_cons.mpr ⟨ok_X9_mayUndo, List.forall_mem_cons.mpr ⟨ok_X9_undoLatest, List.forall_mem_cons.mpr ⟨ok_X9_mayRedo, List.forall_mem_cons.mpr ⟨ok_X9_redoNext, List.forall_mem_cons.mpr ⟨ok_X9_barred, List.forall_mem_cons.mpr ⟨ok_X9_allSpoons, List.forall_mem_cons.mpr ⟨ok_X10_init, List.forall_mem_cons.mpr ⟨ok_X10_dish, List.forall_mem_cons.mpr ⟨ok_X10_dishes, List.forall_mem_cons.mpr ⟨ok_X10_dishFromRow, List.forall_mem_cons.mpr ⟨ok_X10_mend, List.forall_mem_cons.mpr ⟨ok_X10_of, List.forall_mem_cons.mpr ⟨ok_X10_feed, List.forall_mem_cons.mpr ⟨ok_X10_law, List.forall_mem_cons.mpr ⟨ok_X10_isDish, List.forall_mem_cons.mpr ⟨ok_X10_best, List.forall_mem_cons.mpr ⟨ok_X10_sight, List.forall_mem_cons.mpr ⟨ok_X10_byLaw, fun _ h => absurd h List.not_mem_nil⟩⟩⟩⟩⟩⟩⟩⟩⟩⟩⟩⟩⟩⟩⟩⟩⟩⟩⟩⟩⟩⟩⟩⟩
