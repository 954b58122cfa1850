set_option maxRecDepth 100000 in
theorem ok_X11_spoonsOn : tb_X11_spoonsOn.all (mc_okE PM (yX11_spoonsOn, cX11_spoonsOn, 3, some .int, tb_X11_spoonsOn)) = true := by decide +kernel
set_option maxRecDepth 100000 in
theorem ok_X11_emptyPlate : tb_X11_emptyPlate.all (mc_okE PM (yX11_emptyPlate, cX11_emptyPlate, 2, none, tb_X11_emptyPlate)) = true := by decide +kernel
set_option maxRecDepth 100000 in
theorem ok_X11_take : tb_X11_take.all (mc_okE PM (yX11_take, cX11_take, 5, some .int, tb_X11_take)) = true := by decide +kernel
set_option maxRecDepth 100000 in
theorem ok_X11_goOn : tb_X11_goOn.all (mc_okE PM (yX11_goOn, cX11_goOn, 1, some .int, tb_X11_goOn)) = true := by decide +kernel
set_option maxRecDepth 100000 in
theorem ok_X11_end : tb_X11_end.all (mc_okE PM (yX11_end, cX11_end, 2, some .int, tb_X11_end)) = true := by decide +kernel
set_option maxRecDepth 100000 in
theorem ok_X11_led : tb_X11_led.all (mc_okE PM (yX11_led, cX11_led, 2, some .int, tb_X11_led)) = true := by decide +kernel
set_option maxRecDepth 100000 in
theorem ok_X11_image : tb_X11_image.all (mc_okE PM (yX11_image, cX11_image, 2, some .int, tb_X11_image)) = true := by decide +kernel
set_option maxRecDepth 100000 in
theorem ok_X11_back : tb_X11_back.all (mc_okE PM (yX11_back, cX11_back, 2, some .int, tb_X11_back)) = true := by decide +kernel
set_option maxRecDepth 100000 in
theorem ok_X11_allSpoons : tb_X11_allSpoons.all (mc_okE PM (yX11_allSpoons, cX11_allSpoons, 3, some .int, tb_X11_allSpoons)) = true := by decide +kernel
set_option maxRecDepth 100000 in
theorem ok_X11_isBody : tb_X11_isBody.all (mc_okE PM (yX11_isBody, cX11_isBody, 2, some .boolean, tb_X11_isBody)) = true := by decide +kernel
set_option maxRecDepth 100000 in
theorem ok_X11_ran : tb_X11_ran.all (mc_okE PM (yX11_ran, cX11_ran, 2, none, tb_X11_ran)) = true := by decide +kernel
set_option maxRecDepth 100000 in
theorem ok_X11_trace : tb_X11_trace.all (mc_okE PM (yX11_trace, cX11_trace, 2, some .int, tb_X11_trace)) = true := by decide +kernel
set_option maxRecDepth 100000 in
theorem ok_X11_body : tb_X11_body.all (mc_okE PM (yX11_body, cX11_body, 2, some .int, tb_X11_body)) = true := by decide +kernel
set_option maxRecDepth 100000 in
theorem ok_X11_isUnder : tb_X11_isUnder.all (mc_okE PM (yX11_isUnder, cX11_isUnder, 2, some .boolean, tb_X11_isUnder)) = true := by decide +kernel
set_option maxRecDepth 100000 in
theorem ok_X11_plainTakes : tb_X11_plainTakes.all (mc_okE PM (yX11_plainTakes, cX11_plainTakes, 3, some .int, tb_X11_plainTakes)) = true := by decide +kernel
set_option maxRecDepth 100000 in
theorem ok_X11_againTakes : tb_X11_againTakes.all (mc_okE PM (yX11_againTakes, cX11_againTakes, 3, some .int, tb_X11_againTakes)) = true := by decide +kernel
set_option maxRecDepth 100000 in
theorem ok_X11_taking : tb_X11_taking.all (mc_okE PM (yX11_taking, cX11_taking, 3, some .int, tb_X11_taking)) = true := by decide +kernel
set_option maxRecDepth 100000 in
theorem ok_X11_plainGoes : tb_X11_plainGoes.all (mc_okE PM (yX11_plainGoes, cX11_plainGoes, 3, some .int, tb_X11_plainGoes)) = true := by decide +kernel
set_option maxRecDepth 100000 in
theorem ok_X11_shyGoes : tb_X11_shyGoes.all (mc_okE PM (yX11_shyGoes, cX11_shyGoes, 3, some .int, tb_X11_shyGoes)) = true := by decide +kernel
set_option maxRecDepth 100000 in
theorem ok_X11_goesNow : tb_X11_goesNow.all (mc_okE PM (yX11_goesNow, cX11_goesNow, 4, some .int, tb_X11_goesNow)) = true := by decide +kernel
set_option maxRecDepth 100000 in
theorem ok_X11_plainSees : tb_X11_plainSees.all (mc_okE PM (yX11_plainSees, cX11_plainSees, 3, some .int, tb_X11_plainSees)) = true := by decide +kernel
set_option maxRecDepth 100000 in
theorem ok_X11_farSees : tb_X11_farSees.all (mc_okE PM (yX11_farSees, cX11_farSees, 3, some .int, tb_X11_farSees)) = true := by decide +kernel
set_option maxRecDepth 100000 in
theorem ok_X11_seeing : tb_X11_seeing.all (mc_okE PM (yX11_seeing, cX11_seeing, 4, some .int, tb_X11_seeing)) = true := by decide +kernel
set_option maxRecDepth 100000 in
theorem ok_X11_plainTells : tb_X11_plainTells.all (mc_okE PM (yX11_plainTells, cX11_plainTells, 4, some .int, tb_X11_plainTells)) = true := by decide +kernel
theorem pm_ok_10 : ∀ q ∈ pm_10, q.2.2.2.2.all (mc_okE PM q) = true := List.forall_mem_cons.mpr ⟨ok_X11_spoonsOn, List.forall_mem_cons.mpr ⟨ok_X11_emptyPlate, List.forall_mem_cons.mpr ⟨ok_X11_take, List.forall_mem_cons.mpr ⟨ok_X11_goOn, List.forall_mem_cons.mpr ⟨ok_X11_end, List.forall_mem_cons.mpr ⟨ok_X11_led, List.forall_mem_cons.mpr ⟨ok_X11_image, List.forall_mem_cons.mpr ⟨ok_X11_back, List.forall_mem_cons.mpr ⟨ok_X11_allSpoons, List.forall_mem_cons.mpr ⟨ok_X11_isBody, List.forall_mem_cons.mpr ⟨ok_X11_ran, List.forall_mem_cons.mpr ⟨ok_X11_trace, List.forall_mem_cons.mpr ⟨ok_X11_body, List.forall_mem_cons.mpr ⟨ok_X11_isUnder, List.forall_mem_cons.mpr ⟨ok_X11_plainTakes, List.forall_mem_cons.mpr ⟨ok_X11_againTakes, List.forall_mem_cons.mpr ⟨ok_X11_taking, List.forall_mem_cons.mpr ⟨ok_X11_plainGoes, List.forall_mem_cons.mpr ⟨ok_X11_shyGoes, List.forall_mem_cons.mpr ⟨ok_X11_goesNow, List.forall_mem_cons.mpr ⟨ok_X11_plainSees, List.forall_mem_cons.mpr ⟨ok_X11_farSees, List.forall_mem_cons.mpr ⟨ok_X11_seeing, List.forall_mem_cons.mpr ⟨ok_X11_plainTells, fun _ h => absurd h List.not_mem_nil⟩⟩⟩⟩⟩⟩⟩⟩⟩⟩⟩⟩⟩⟩⟩⟩⟩⟩⟩⟩⟩⟩⟩⟩
