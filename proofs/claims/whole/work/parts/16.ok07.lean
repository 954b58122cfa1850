set_option maxRecDepth 100000 in
theorem ok_X11_dish : tb_X11_dish.all (mc_okE PM (yX11_dish, cX11_dish, 3, some .int, tb_X11_dish)) = true := by decide +kernel
set_option maxRecDepth 100000 in
theorem ok_X11_dishes : tb_X11_dishes.all (mc_okE PM (yX11_dishes, cX11_dishes, 8, some .int, tb_X11_dishes)) = true := by decide +kernel
set_option maxRecDepth 100000 in
theorem ok_X11_valueAt : tb_X11_valueAt.all (mc_okE PM (yX11_valueAt, cX11_valueAt, 3, some .int, tb_X11_valueAt)) = true := by decide +kernel
set_option maxRecDepth 100000 in
theorem ok_X11_lays : tb_X11_lays.all (mc_okE PM (yX11_lays, cX11_lays, 4, none, tb_X11_lays)) = true := by decide +kernel
set_option maxRecDepth 100000 in
theorem ok_X11_changes : tb_X11_changes.all (mc_okE PM (yX11_changes, cX11_changes, 6, some .int, tb_X11_changes)) = true := by decide +kernel
set_option maxRecDepth 100000 in
theorem ok_X11_undo : tb_X11_undo.all (mc_okE PM (yX11_undo, cX11_undo, 1, some .int, tb_X11_undo)) = true := by decide +kernel
set_option maxRecDepth 100000 in
theorem ok_X11_redo : tb_X11_redo.all (mc_okE PM (yX11_redo, cX11_redo, 1, some .int, tb_X11_redo)) = true := by decide +kernel
set_option maxRecDepth 100000 in
theorem ok_X11_isOne : tb_X11_isOne.all (mc_okE PM (yX11_isOne, cX11_isOne, 3, some .boolean, tb_X11_isOne)) = true := by decide +kernel
set_option maxRecDepth 100000 in
theorem ok_X11_mayBe : tb_X11_mayBe.all (mc_okE PM (yX11_mayBe, cX11_mayBe, 2, some .boolean, tb_X11_mayBe)) = true := by decide +kernel
set_option maxRecDepth 100000 in
theorem ok_X11_mend : tb_X11_mend.all (mc_okE PM (yX11_mend, cX11_mend, 4, some .int, tb_X11_mend)) = true := by decide +kernel
set_option maxRecDepth 100000 in
theorem ok_X11_of : tb_X11_of.all (mc_okE PM (yX11_of, cX11_of, 3, some .int, tb_X11_of)) = true := by decide +kernel
set_option maxRecDepth 100000 in
theorem ok_X11_feed : tb_X11_feed.all (mc_okE PM (yX11_feed, cX11_feed, 2, some .int, tb_X11_feed)) = true := by decide +kernel
set_option maxRecDepth 100000 in
theorem ok_X11_look : tb_X11_look.all (mc_okE PM (yX11_look, cX11_look, 1, some .int, tb_X11_look)) = true := by decide +kernel
set_option maxRecDepth 100000 in
theorem ok_X11_faulty : tb_X11_faulty.all (mc_okE PM (yX11_faulty, cX11_faulty, 1, none, tb_X11_faulty)) = true := by decide +kernel
set_option maxRecDepth 100000 in
theorem ok_X11_addStep : tb_X11_addStep.all (mc_okE PM (yX11_addStep, cX11_addStep, 3, none, tb_X11_addStep)) = true := by decide +kernel
set_option maxRecDepth 100000 in
theorem ok_X11_nameOf : tb_X11_nameOf.all (mc_okE PM (yX11_nameOf, cX11_nameOf, 1, some .int, tb_X11_nameOf)) = true := by decide +kernel
set_option maxRecDepth 100000 in
theorem ok_X11_opens : tb_X11_opens.all (mc_okE PM (yX11_opens, cX11_opens, 1, some .boolean, tb_X11_opens)) = true := by decide +kernel
set_option maxRecDepth 100000 in
theorem ok_X11_figure : tb_X11_figure.all (mc_okE PM (yX11_figure, cX11_figure, 3, none, tb_X11_figure)) = true := by decide +kernel
set_option maxRecDepth 100000 in
theorem ok_X11_operand : tb_X11_operand.all (mc_okE PM (yX11_operand, cX11_operand, 2, none, tb_X11_operand)) = true := by decide +kernel
set_option maxRecDepth 100000 in
theorem ok_X11_product : tb_X11_product.all (mc_okE PM (yX11_product, cX11_product, 2, none, tb_X11_product)) = true := by decide +kernel
set_option maxRecDepth 100000 in
theorem ok_X11_sum : tb_X11_sum.all (mc_okE PM (yX11_sum, cX11_sum, 2, none, tb_X11_sum)) = true := by decide +kernel
set_option maxRecDepth 100000 in
theorem ok_X11_compared : tb_X11_compared.all (mc_okE PM (yX11_compared, cX11_compared, 2, none, tb_X11_compared)) = true := by decide +kernel
set_option maxRecDepth 100000 in
theorem ok_X11_both : tb_X11_both.all (mc_okE PM (yX11_both, cX11_both, 1, none, tb_X11_both)) = true := by decide +kernel
set_option maxRecDepth 100000 in
theorem ok_X11_either : tb_X11_either.all (mc_okE PM (yX11_either, cX11_either, 1, none, tb_X11_either)) = true := by decide +kernel
theorem pm_ok_7 : ∀ q ∈ pm_7, q.2.2.2.2.all (mc_okE PM q) = true := List.forall_mem_cons.mpr ⟨ok_X11_dish, List.forall_mem_cons.mpr ⟨ok_X11_dishes, List.forall_mem_cons.mpr ⟨ok_X11_valueAt, List.forall_mem_cons.mpr ⟨ok_X11_lays, List.forall_mem_cons.mpr ⟨ok_X11_changes, List.forall_mem_cons.mpr ⟨ok_X11_undo, List.forall_mem_cons.mpr ⟨ok_X11_redo, List.forall_mem_cons.mpr ⟨ok_X11_isOne, List.forall_mem_cons.mpr ⟨ok_X11_mayBe, List.forall_mem_cons.mpr ⟨ok_X11_mend, List.forall_mem_cons.mpr ⟨ok_X11_of, List.forall_mem_cons.mpr ⟨ok_X11_feed, List.forall_mem_cons.mpr ⟨ok_X11_look, List.forall_mem_cons.mpr ⟨ok_X11_faulty, List.forall_mem_cons.mpr ⟨ok_X11_addStep, List.forall_mem_cons.mpr ⟨ok_X11_nameOf, List.forall_mem_cons.mpr ⟨ok_X11_opens, List.forall_mem_cons.mpr ⟨ok_X11_figure, List.forall_mem_cons.mpr ⟨ok_X11_operand, List.forall_mem_cons.mpr ⟨ok_X11_product, List.forall_mem_cons.mpr ⟨ok_X11_sum, List.forall_mem_cons.mpr ⟨ok_X11_compared, List.forall_mem_cons.mpr ⟨ok_X11_both, List.forall_mem_cons.mpr ⟨ok_X11_either, fun _ h => absurd h List.not_mem_nil⟩⟩⟩⟩⟩⟩⟩⟩⟩⟩⟩⟩⟩⟩⟩⟩⟩⟩⟩⟩⟩⟩⟩⟩
