set_option maxRecDepth 100000 in
theorem ok_X5_mostOf : tb_X5_mostOf.all (mc_okE PM (yX5_mostOf, cX5_mostOf, 3, some .int, tb_X5_mostOf)) = true := by decide +kernel
set_option maxRecDepth 100000 in
theorem ok_X5_serve : tb_X5_serve.all (mc_okE PM (yX5_serve, cX5_serve, 3, none, tb_X5_serve)) = true := by decide +kernel
set_option maxRecDepth 100000 in
theorem ok_X5_goBy : tb_X5_goBy.all (mc_okE PM (yX5_goBy, cX5_goBy, 3, none, tb_X5_goBy)) = true := by decide +kernel
set_option maxRecDepth 100000 in
theorem ok_X5_wantedByLaw : tb_X5_wantedByLaw.all (mc_okE PM (yX5_wantedByLaw, cX5_wantedByLaw, 6, some .int, tb_X5_wantedByLaw)) = true := by decide +kernel
set_option maxRecDepth 100000 in
theorem ok_X5_goSeeing : tb_X5_goSeeing.all (mc_okE PM (yX5_goSeeing, cX5_goSeeing, 5, none, tb_X5_goSeeing)) = true := by decide +kernel
set_option maxRecDepth 100000 in
theorem ok_X6_init : tb_X6_init.all (mc_okE PM (yX6_init, cX6_init, 1, none, tb_X6_init)) = true := by decide +kernel
set_option maxRecDepth 100000 in
theorem ok_X6_isTapeFull : tb_X6_isTapeFull.all (mc_okE PM (yX6_isTapeFull, cX6_isTapeFull, 1, some .boolean, tb_X6_isTapeFull)) = true := by decide +kernel
set_option maxRecDepth 100000 in
theorem ok_X6_addByte : tb_X6_addByte.all (mc_okE PM (yX6_addByte, cX6_addByte, 2, some .int, tb_X6_addByte)) = true := by decide +kernel
set_option maxRecDepth 100000 in
theorem ok_X6_tapeLength : tb_X6_tapeLength.all (mc_okE PM (yX6_tapeLength, cX6_tapeLength, 1, some .int, tb_X6_tapeLength)) = true := by decide +kernel
set_option maxRecDepth 100000 in
theorem ok_X6_readTape : tb_X6_readTape.all (mc_okE PM (yX6_readTape, cX6_readTape, 3, some .int, tb_X6_readTape)) = true := by decide +kernel
set_option maxRecDepth 100000 in
theorem ok_X6_verdict : tb_X6_verdict.all (mc_okE PM (yX6_verdict, cX6_verdict, 10, some .int, tb_X6_verdict)) = true := by decide +kernel
set_option maxRecDepth 100000 in
theorem ok_X6_peek : tb_X6_peek.all (mc_okE PM (yX6_peek, cX6_peek, 1, some .int, tb_X6_peek)) = true := by decide +kernel
set_option maxRecDepth 100000 in
theorem ok_X6_readLines : tb_X6_readLines.all (mc_okE PM (yX6_readLines, cX6_readLines, 2, some .boolean, tb_X6_readLines)) = true := by decide +kernel
set_option maxRecDepth 100000 in
theorem ok_X6_readLine : tb_X6_readLine.all (mc_okE PM (yX6_readLine, cX6_readLine, 1, some .boolean, tb_X6_readLine)) = true := by decide +kernel
set_option maxRecDepth 100000 in
theorem ok_X6_readTerm : tb_X6_readTerm.all (mc_okE PM (yX6_readTerm, cX6_readTerm, 6, some .boolean, tb_X6_readTerm)) = true := by decide +kernel
set_option maxRecDepth 100000 in
theorem ok_X6_levelOf : tb_X6_levelOf.all (mc_okE PM (yX6_levelOf, cX6_levelOf, 1, some .int, tb_X6_levelOf)) = true := by decide +kernel
set_option maxRecDepth 100000 in
theorem ok_X6_readOperand : tb_X6_readOperand.all (mc_okE PM (yX6_readOperand, cX6_readOperand, 3, some .boolean, tb_X6_readOperand)) = true := by decide +kernel
set_option maxRecDepth 100000 in
theorem ok_X6_readClosing : tb_X6_readClosing.all (mc_okE PM (yX6_readClosing, cX6_readClosing, 1, some .boolean, tb_X6_readClosing)) = true := by decide +kernel
set_option maxRecDepth 100000 in
theorem ok_X6_readNumber : tb_X6_readNumber.all (mc_okE PM (yX6_readNumber, cX6_readNumber, 3, none, tb_X6_readNumber)) = true := by decide +kernel
set_option maxRecDepth 100000 in
theorem ok_X7_init : tb_X7_init.all (mc_okE PM (yX7_init, cX7_init, 1, none, tb_X7_init)) = true := by decide +kernel
set_option maxRecDepth 100000 in
theorem ok_X7_copy : tb_X7_copy.all (mc_okE PM (yX7_copy, cX7_copy, 3, none, tb_X7_copy)) = true := by decide +kernel
set_option maxRecDepth 100000 in
theorem ok_X7_copyInOrder : tb_X7_copyInOrder.all (mc_okE PM (yX7_copyInOrder, cX7_copyInOrder, 5, none, tb_X7_copyInOrder)) = true := by decide +kernel
set_option maxRecDepth 100000 in
theorem ok_X7_copyRest : tb_X7_copyRest.all (mc_okE PM (yX7_copyRest, cX7_copyRest, 3, none, tb_X7_copyRest)) = true := by decide +kernel
set_option maxRecDepth 100000 in
theorem ok_X7_lose : tb_X7_lose.all (mc_okE PM (yX7_lose, cX7_lose, 3, none, tb_X7_lose)) = true := by decide +kernel
theorem pm_ok_2 : ∀ q ∈ pm_2, q.2.2.2.2.all (mc_okE PM q) = true := List.forall_mem_cons.mpr ⟨ok_X5_mostOf, List.forall_mem_cons.mpr ⟨ok_X5_serve, List.forall_mem_cons.mpr ⟨ok_X5_goBy, List.forall_mem_cons.mpr ⟨ok_X5_wantedByLaw, List.forall_mem_cons.mpr ⟨ok_X5_goSeeing, List.forall_mem_cons.mpr ⟨ok_X6_init, List.forall_mem_cons.mpr ⟨ok_X6_isTapeFull, List.forall_mem_cons.mpr ⟨ok_X6_addByte, List.forall_mem_cons.mpr ⟨ok_X6_tapeLength, List.forall_mem_cons.mpr ⟨ok_X6_readTape, List.forall_mem_cons.mpr ⟨ok_X6_verdict, List.forall_mem_cons.mpr ⟨ok_X6_peek, List.forall_mem_cons.mpr ⟨ok_X6_readLines, List.forall_mem_cons.mpr ⟨ok_X6_readLine, List.forall_mem_cons.mpr ⟨ok_X6_readTerm, List.forall_mem_cons.mpr ⟨ok_X6_levelOf, List.forall_mem_cons.mpr ⟨ok_X6_readOperand, List.forall_mem_cons.mpr ⟨ok_X6_readClosing, List.forall_mem_cons.mpr ⟨ok_X6_readNumber, List.forall_mem_cons.mpr ⟨ok_X7_init, List.forall_mem_cons.mpr ⟨ok_X7_copy, List.forall_mem_cons.mpr ⟨ok_X7_copyInOrder, List.forall_mem_cons.mpr ⟨ok_X7_copyRest, List.forall_mem_cons.mpr ⟨ok_X7_lose, fun _ h => absurd h List.not_mem_nil⟩⟩⟩⟩⟩⟩⟩⟩⟩⟩⟩⟩⟩⟩⟩⟩⟩⟩⟩⟩⟩⟩⟩⟩
