set_option maxRecDepth 100000 in
theorem ok_X7_costOf : tb_X7_costOf.all (mc_okE PM (yX7_costOf, cX7_costOf, 4, some .int, tb_X7_costOf)) = true := by decide +kernel
set_option maxRecDepth 100000 in
theorem ok_X7_draw : tb_X7_draw.all (mc_okE PM (yX7_draw, cX7_draw, 4, some .int, tb_X7_draw)) = true := by decide +kernel
set_option maxRecDepth 100000 in
theorem ok_X7_nextOrder : tb_X7_nextOrder.all (mc_okE PM (yX7_nextOrder, cX7_nextOrder, 6, some .boolean, tb_X7_nextOrder)) = true := by decide +kernel
set_option maxRecDepth 100000 in
theorem ok_X7_swap : tb_X7_swap.all (mc_okE PM (yX7_swap, cX7_swap, 4, none, tb_X7_swap)) = true := by decide +kernel
set_option maxRecDepth 100000 in
theorem ok_X8_init : tb_X8_init.all (mc_okE PM (yX8_init, cX8_init, 1, none, tb_X8_init)) = true := by decide +kernel
set_option maxRecDepth 100000 in
theorem ok_X8_isShelf : tb_X8_isShelf.all (mc_okE PM (yX8_isShelf, cX8_isShelf, 1, some .boolean, tb_X8_isShelf)) = true := by decide +kernel
set_option maxRecDepth 100000 in
theorem ok_X8_isEmpty : tb_X8_isEmpty.all (mc_okE PM (yX8_isEmpty, cX8_isEmpty, 2, some .boolean, tb_X8_isEmpty)) = true := by decide +kernel
set_option maxRecDepth 100000 in
theorem ok_X8_isRow : tb_X8_isRow.all (mc_okE PM (yX8_isRow, cX8_isRow, 2, some .boolean, tb_X8_isRow)) = true := by decide +kernel
set_option maxRecDepth 100000 in
theorem ok_X8_isBytes : tb_X8_isBytes.all (mc_okE PM (yX8_isBytes, cX8_isBytes, 2, some .boolean, tb_X8_isBytes)) = true := by decide +kernel
set_option maxRecDepth 100000 in
theorem ok_X8_bodyOn : tb_X8_bodyOn.all (mc_okE PM (yX8_bodyOn, cX8_bodyOn, 2, some .int, tb_X8_bodyOn)) = true := by decide +kernel
set_option maxRecDepth 100000 in
theorem ok_X8_length : tb_X8_length.all (mc_okE PM (yX8_length, cX8_length, 2, some .int, tb_X8_length)) = true := by decide +kernel
set_option maxRecDepth 100000 in
theorem ok_X8_holdBody : tb_X8_holdBody.all (mc_okE PM (yX8_holdBody, cX8_holdBody, 3, none, tb_X8_holdBody)) = true := by decide +kernel
set_option maxRecDepth 100000 in
theorem ok_X8_holdRow : tb_X8_holdRow.all (mc_okE PM (yX8_holdRow, cX8_holdRow, 5, none, tb_X8_holdRow)) = true := by decide +kernel
set_option maxRecDepth 100000 in
theorem ok_X8_refusalOfBytes : tb_X8_refusalOfBytes.all (mc_okE PM (yX8_refusalOfBytes, cX8_refusalOfBytes, 2, some .int, tb_X8_refusalOfBytes)) = true := by decide +kernel
set_option maxRecDepth 100000 in
theorem ok_X8_refusalOfPlace : tb_X8_refusalOfPlace.all (mc_okE PM (yX8_refusalOfPlace, cX8_refusalOfPlace, 3, some .int, tb_X8_refusalOfPlace)) = true := by decide +kernel
set_option maxRecDepth 100000 in
theorem ok_X8_refusalOfPair : tb_X8_refusalOfPair.all (mc_okE PM (yX8_refusalOfPair, cX8_refusalOfPair, 3, some .int, tb_X8_refusalOfPair)) = true := by decide +kernel
set_option maxRecDepth 100000 in
theorem ok_X8_hasStretch : tb_X8_hasStretch.all (mc_okE PM (yX8_hasStretch, cX8_hasStretch, 4, some .boolean, tb_X8_hasStretch)) = true := by decide +kernel
set_option maxRecDepth 100000 in
theorem ok_X8_cell : tb_X8_cell.all (mc_okE PM (yX8_cell, cX8_cell, 3, some .long, tb_X8_cell)) = true := by decide +kernel
set_option maxRecDepth 100000 in
theorem ok_X8_setCell : tb_X8_setCell.all (mc_okE PM (yX8_setCell, cX8_setCell, 5, none, tb_X8_setCell)) = true := by decide +kernel
set_option maxRecDepth 100000 in
theorem ok_X8_lowBits : tb_X8_lowBits.all (mc_okE PM (yX8_lowBits, cX8_lowBits, 3, some .long, tb_X8_lowBits)) = true := by decide +kernel
set_option maxRecDepth 100000 in
theorem ok_X8_copyCells : tb_X8_copyCells.all (mc_okE PM (yX8_copyCells, cX8_copyCells, 6, none, tb_X8_copyCells)) = true := by decide +kernel
set_option maxRecDepth 100000 in
theorem ok_X9_init : tb_X9_init.all (mc_okE PM (yX9_init, cX9_init, 1, none, tb_X9_init)) = true := by decide +kernel
set_option maxRecDepth 100000 in
theorem ok_X9_allowed : tb_X9_allowed.all (mc_okE PM (yX9_allowed, cX9_allowed, 2, some .boolean, tb_X9_allowed)) = true := by decide +kernel
set_option maxRecDepth 100000 in
theorem ok_X9_has : tb_X9_has.all (mc_okE PM (yX9_has, cX9_has, 3, some .boolean, tb_X9_has)) = true := by decide +kernel
theorem pm_ok_3 : ∀ q ∈ pm_3, q.2.2.2.2.all (mc_okE PM q) = true := List.forall_mem_cons.mpr ⟨ok_X7_costOf, List.forall_mem_cons.mpr ⟨ok_X7_draw, List.forall_mem_cons.mpr ⟨ok_X7_nextOrder, List.forall_mem_cons.mpr ⟨ok_X7_swap, List.forall_mem_cons.mpr ⟨ok_X8_init, List.forall_mem_cons.mpr ⟨ok_X8_isShelf, List.forall_mem_cons.mpr ⟨ok_X8_isEmpty, List.forall_mem_cons.mpr ⟨ok_X8_isRow, List.forall_mem_cons.mpr ⟨ok_X8_isBytes, List.forall_mem_cons.mpr ⟨ok_X8_bodyOn, List.forall_mem_cons.mpr ⟨ok_X8_length, List.forall_mem_cons.mpr ⟨ok_X8_holdBody, List.forall_mem_cons.mpr ⟨ok_X8_holdRow, List.forall_mem_cons.mpr ⟨ok_X8_refusalOfBytes, List.forall_mem_cons.mpr ⟨ok_X8_refusalOfPlace, List.forall_mem_cons.mpr ⟨ok_X8_refusalOfPair, List.forall_mem_cons.mpr ⟨ok_X8_hasStretch, List.forall_mem_cons.mpr ⟨ok_X8_cell, List.forall_mem_cons.mpr ⟨ok_X8_setCell, List.forall_mem_cons.mpr ⟨ok_X8_lowBits, List.forall_mem_cons.mpr ⟨ok_X8_copyCells, List.forall_mem_cons.mpr ⟨ok_X9_init, List.forall_mem_cons.mpr ⟨ok_X9_allowed, List.forall_mem_cons.mpr ⟨ok_X9_has, fun _ h => absurd h List.not_mem_nil⟩⟩⟩⟩⟩⟩⟩⟩⟩⟩⟩⟩⟩⟩⟩⟩⟩⟩⟩⟩⟩⟩⟩⟩
