set_option maxRecDepth 100000 in
theorem ok_X10_undo : tb_X10_undo.all (mc_okE PM (yX10_undo, cX10_undo, 1, some .int, tb_X10_undo)) = true := by decide +kernel
set_option maxRecDepth 100000 in
theorem ok_X10_redo : tb_X10_redo.all (mc_okE PM (yX10_redo, cX10_redo, 1, some .int, tb_X10_redo)) = true := by decide +kernel
set_option maxRecDepth 100000 in
theorem ok_X10_body : tb_X10_body.all (mc_okE PM (yX10_body, cX10_body, 2, some .int, tb_X10_body)) = true := by decide +kernel
set_option maxRecDepth 100000 in
theorem ok_X10_act : tb_X10_act.all (mc_okE PM (yX10_act, cX10_act, 4, some .int, tb_X10_act)) = true := by decide +kernel
set_option maxRecDepth 100000 in
theorem ok_X10_trace : tb_X10_trace.all (mc_okE PM (yX10_trace, cX10_trace, 2, some .int, tb_X10_trace)) = true := by decide +kernel
set_option maxRecDepth 100000 in
theorem ok_X10_keep : tb_X10_keep.all (mc_okE PM (yX10_keep, cX10_keep, 3, some .int, tb_X10_keep)) = true := by decide +kernel
set_option maxRecDepth 100000 in
theorem ok_X10_row : tb_X10_row.all (mc_okE PM (yX10_row, cX10_row, 4, some .int, tb_X10_row)) = true := by decide +kernel
set_option maxRecDepth 100000 in
theorem ok_X10_put : tb_X10_put.all (mc_okE PM (yX10_put, cX10_put, 6, some .int, tb_X10_put)) = true := by decide +kernel
set_option maxRecDepth 100000 in
theorem ok_X10_element : tb_X10_element.all (mc_okE PM (yX10_element, cX10_element, 3, some .long, tb_X10_element)) = true := by decide +kernel
set_option maxRecDepth 100000 in
theorem ok_X10_shift : tb_X10_shift.all (mc_okE PM (yX10_shift, cX10_shift, 7, some .int, tb_X10_shift)) = true := by decide +kernel
set_option maxRecDepth 100000 in
theorem ok_X10_taken : tb_X10_taken.all (mc_okE PM (yX10_taken, cX10_taken, 4, some .int, tb_X10_taken)) = true := by decide +kernel
set_option maxRecDepth 100000 in
theorem ok_X10_count : tb_X10_count.all (mc_okE PM (yX10_count, cX10_count, 2, some .int, tb_X10_count)) = true := by decide +kernel
set_option maxRecDepth 100000 in
theorem ok_X11_init : tb_X11_init.all (mc_okE PM (yX11_init, cX11_init, 1, none, tb_X11_init)) = true := by decide +kernel
set_option maxRecDepth 100000 in
theorem ok_X11_in : tb_X11_in.all (mc_okE PM (yX11_in, cX11_in, 3, some .boolean, tb_X11_in)) = true := by decide +kernel
set_option maxRecDepth 100000 in
theorem ok_X11_worthAt : tb_X11_worthAt.all (mc_okE PM (yX11_worthAt, cX11_worthAt, 2, some .int, tb_X11_worthAt)) = true := by decide +kernel
set_option maxRecDepth 100000 in
theorem ok_X11_lessAt : tb_X11_lessAt.all (mc_okE PM (yX11_lessAt, cX11_lessAt, 2, some .int, tb_X11_lessAt)) = true := by decide +kernel
set_option maxRecDepth 100000 in
theorem ok_X11_spaceAt : tb_X11_spaceAt.all (mc_okE PM (yX11_spaceAt, cX11_spaceAt, 2, some .int, tb_X11_spaceAt)) = true := by decide +kernel
set_option maxRecDepth 100000 in
theorem ok_X11_spoonsAt : tb_X11_spoonsAt.all (mc_okE PM (yX11_spoonsAt, cX11_spoonsAt, 2, some .int, tb_X11_spoonsAt)) = true := by decide +kernel
set_option maxRecDepth 100000 in
theorem ok_X11_sortAt : tb_X11_sortAt.all (mc_okE PM (yX11_sortAt, cX11_sortAt, 2, some .int, tb_X11_sortAt)) = true := by decide +kernel
set_option maxRecDepth 100000 in
theorem ok_X11_runsAt : tb_X11_runsAt.all (mc_okE PM (yX11_runsAt, cX11_runsAt, 2, some .int, tb_X11_runsAt)) = true := by decide +kernel
set_option maxRecDepth 100000 in
theorem ok_X11_dearAt : tb_X11_dearAt.all (mc_okE PM (yX11_dearAt, cX11_dearAt, 2, some .int, tb_X11_dearAt)) = true := by decide +kernel
set_option maxRecDepth 100000 in
theorem ok_X11_chanceAt : tb_X11_chanceAt.all (mc_okE PM (yX11_chanceAt, cX11_chanceAt, 2, some .int, tb_X11_chanceAt)) = true := by decide +kernel
set_option maxRecDepth 100000 in
theorem ok_X11_isDish : tb_X11_isDish.all (mc_okE PM (yX11_isDish, cX11_isDish, 2, some .boolean, tb_X11_isDish)) = true := by decide +kernel
set_option maxRecDepth 100000 in
theorem ok_X11_addDish : tb_X11_addDish.all (mc_okE PM (yX11_addDish, cX11_addDish, 5, some .int, tb_X11_addDish)) = true := by decide +kernel
theorem pm_ok_6 : ∀ q ∈ pm_6, q.2.2.2.2.all (mc_okE PM q) = true := List.forall_mem_cons.mpr ⟨ok_X10_undo, List.forall_mem_cons.mpr ⟨ok_X10_redo, List.forall_mem_cons.mpr ⟨ok_X10_body, List.forall_mem_cons.mpr ⟨ok_X10_act, List.forall_mem_cons.mpr ⟨ok_X10_trace, List.forall_mem_cons.mpr ⟨ok_X10_keep, List.forall_mem_cons.mpr ⟨ok_X10_row, List.forall_mem_cons.mpr ⟨ok_X10_put, List.forall_mem_cons.mpr ⟨ok_X10_element, List.forall_mem_cons.mpr ⟨ok_X10_shift, List.forall_mem_cons.mpr ⟨ok_X10_taken, List.forall_mem_cons.mpr ⟨ok_X10_count, List.forall_mem_cons.mpr ⟨ok_X11_init, List.forall_mem_cons.mpr ⟨ok_X11_in, List.forall_mem_cons.mpr ⟨ok_X11_worthAt, List.forall_mem_cons.mpr ⟨ok_X11_lessAt, List.forall_mem_cons.mpr ⟨ok_X11_spaceAt, List.forall_mem_cons.mpr ⟨ok_X11_spoonsAt, List.forall_mem_cons.mpr ⟨ok_X11_sortAt, List.forall_mem_cons.mpr ⟨ok_X11_runsAt, List.forall_mem_cons.mpr ⟨ok_X11_dearAt, List.forall_mem_cons.mpr ⟨ok_X11_chanceAt, List.forall_mem_cons.mpr ⟨ok_X11_isDish, List.forall_mem_cons.mpr ⟨ok_X11_addDish, fun _ h => absurd h List.not_mem_nil⟩⟩⟩⟩⟩⟩⟩⟩⟩⟩⟩⟩⟩⟩⟩⟩⟩⟩⟩⟩⟩⟩⟩⟩
