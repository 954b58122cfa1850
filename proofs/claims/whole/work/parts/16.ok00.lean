set_option maxRecDepth 100000 in
theorem ok_X0_init : tb_X0_init.all (mc_okE PM (yX0_init, cX0_init, 2, none, tb_X0_init)) = true := by decide +kernel
set_option maxRecDepth 100000 in
theorem ok_X0_look : tb_X0_look.all (mc_okE PM (yX0_look, cX0_look, 7, none, tb_X0_look)) = true := by decide +kernel
set_option maxRecDepth 100000 in
theorem ok_X0_worthOfAll : tb_X0_worthOfAll.all (mc_okE PM (yX0_worthOfAll, cX0_worthOfAll, 1, some .long, tb_X0_worthOfAll)) = true := by decide +kernel
set_option maxRecDepth 100000 in
theorem ok_X0_worthWithFirst : tb_X0_worthWithFirst.all (mc_okE PM (yX0_worthWithFirst, cX0_worthWithFirst, 1, some .long, tb_X0_worthWithFirst)) = true := by decide +kernel
set_option maxRecDepth 100000 in
theorem ok_X0_fewest : tb_X0_fewest.all (mc_okE PM (yX0_fewest, cX0_fewest, 4, some .int, tb_X0_fewest)) = true := by decide +kernel
set_option maxRecDepth 100000 in
theorem ok_X0_worthFrom : tb_X0_worthFrom.all (mc_okE PM (yX0_worthFrom, cX0_worthFrom, 9, some .long, tb_X0_worthFrom)) = true := by decide +kernel
set_option maxRecDepth 100000 in
theorem ok_X0_blockOf : tb_X0_blockOf.all (mc_okE PM (yX0_blockOf, cX0_blockOf, 2, some .int, tb_X0_blockOf)) = true := by decide +kernel
set_option maxRecDepth 100000 in
theorem ok_X0_worthIfThere : tb_X0_worthIfThere.all (mc_okE PM (yX0_worthIfThere, cX0_worthIfThere, 19, some .long, tb_X0_worthIfThere)) = true := by decide +kernel
set_option maxRecDepth 100000 in
theorem ok_X1_init : tb_X1_init.all (mc_okE PM (yX1_init, cX1_init, 1, none, tb_X1_init)) = true := by decide +kernel
set_option maxRecDepth 100000 in
theorem ok_X1_isFull : tb_X1_isFull.all (mc_okE PM (yX1_isFull, cX1_isFull, 1, some .boolean, tb_X1_isFull)) = true := by decide +kernel
set_option maxRecDepth 100000 in
theorem ok_X1_has : tb_X1_has.all (mc_okE PM (yX1_has, cX1_has, 2, some .boolean, tb_X1_has)) = true := by decide +kernel
set_option maxRecDepth 100000 in
theorem ok_X1_add : tb_X1_add.all (mc_okE PM (yX1_add, cX1_add, 2, some .int, tb_X1_add)) = true := by decide +kernel
set_option maxRecDepth 100000 in
theorem ok_X1_kindOf : tb_X1_kindOf.all (mc_okE PM (yX1_kindOf, cX1_kindOf, 2, some .int, tb_X1_kindOf)) = true := by decide +kernel
set_option maxRecDepth 100000 in
theorem ok_X1_isUnder : tb_X1_isUnder.all (mc_okE PM (yX1_isUnder, cX1_isUnder, 4, some .boolean, tb_X1_isUnder)) = true := by decide +kernel
set_option maxRecDepth 100000 in
theorem ok_X1_forgetTrace : tb_X1_forgetTrace.all (mc_okE PM (yX1_forgetTrace, cX1_forgetTrace, 1, none, tb_X1_forgetTrace)) = true := by decide +kernel
set_option maxRecDepth 100000 in
theorem ok_X1_isTraced : tb_X1_isTraced.all (mc_okE PM (yX1_isTraced, cX1_isTraced, 2, some .boolean, tb_X1_isTraced)) = true := by decide +kernel
set_option maxRecDepth 100000 in
theorem ok_X1_traced : tb_X1_traced.all (mc_okE PM (yX1_traced, cX1_traced, 2, some .int, tb_X1_traced)) = true := by decide +kernel
set_option maxRecDepth 100000 in
theorem ok_X1_perform : tb_X1_perform.all (mc_okE PM (yX1_perform, cX1_perform, 4, some .int, tb_X1_perform)) = true := by decide +kernel
set_option maxRecDepth 100000 in
theorem ok_X1_run : tb_X1_run.all (mc_okE PM (yX1_run, cX1_run, 8, some .int, tb_X1_run)) = true := by decide +kernel
set_option maxRecDepth 100000 in
theorem ok_X1_begin : tb_X1_begin.all (mc_okE PM (yX1_begin, cX1_begin, 2, none, tb_X1_begin)) = true := by decide +kernel
set_option maxRecDepth 100000 in
theorem ok_X1_own : tb_X1_own.all (mc_okE PM (yX1_own, cX1_own, 4, some .int, tb_X1_own)) = true := by decide +kernel
set_option maxRecDepth 100000 in
theorem ok_X1_work : tb_X1_work.all (mc_okE PM (yX1_work, cX1_work, 5, some .int, tb_X1_work)) = true := by decide +kernel
set_option maxRecDepth 100000 in
theorem ok_X2_init : tb_X2_init.all (mc_okE PM (yX2_init, cX2_init, 1, none, tb_X2_init)) = true := by decide +kernel
set_option maxRecDepth 100000 in
theorem ok_X2_clear : tb_X2_clear.all (mc_okE PM (yX2_clear, cX2_clear, 1, none, tb_X2_clear)) = true := by decide +kernel
theorem pm_ok_0 : ∀ q ∈ pm_0, q.2.2.2.2.all (mc_okE PM q) = true := List.forall_mem_cons.mpr ⟨ok_X0_init, List.forall_mem_cons.mpr ⟨ok_X0_look, List.forall_mem_cons.mpr ⟨ok_X0_worthOfAll, List.forall_mem_cons.mpr ⟨ok_X0_worthWithFirst, List.forall_mem_cons.mpr ⟨ok_X0_fewest, List.forall_mem_cons.mpr ⟨ok_X0_worthFrom, List.forall_mem_cons.mpr ⟨ok_X0_blockOf, List.forall_mem_cons.mpr ⟨ok_X0_worthIfThere, List.forall_mem_cons.mpr ⟨ok_X1_init, List.forall_mem_cons.mpr ⟨ok_X1_isFull, List.forall_mem_cons.mpr ⟨ok_X1_has, List.forall_mem_cons.mpr ⟨ok_X1_add, List.forall_mem_cons.mpr ⟨ok_X1_kindOf, List.forall_mem_cons.mpr ⟨ok_X1_isUnder, List.forall_mem_cons.mpr ⟨ok_X1_forgetTrace, List.forall_mem_cons.mpr ⟨ok_X1_isTraced, List.forall_mem_cons.mpr ⟨ok_X1_traced, List.forall_mem_cons.mpr ⟨ok_X1_perform, List.forall_mem_cons.mpr ⟨ok_X1_run, List.forall_mem_cons.mpr ⟨ok_X1_begin, List.forall_mem_cons.mpr ⟨ok_X1_own, List.forall_mem_cons.mpr ⟨ok_X1_work, List.forall_mem_cons.mpr ⟨ok_X2_init, List.forall_mem_cons.mpr ⟨ok_X2_clear, fun _ h => absurd h List.not_mem_nil⟩⟩⟩⟩⟩⟩⟩⟩⟩⟩⟩⟩⟩⟩⟩⟩⟩⟩⟩⟩⟩⟩⟩⟩
