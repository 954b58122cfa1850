set_option maxRecDepth 100000 in
theorem ok_X10_mean : tb_X10_mean.all (mc_okE PM (yX10_mean, cX10_mean, 3, some .long, tb_X10_mean)) = true := by decide +kernel
set_option maxRecDepth 100000 in
theorem ok_X10_left : tb_X10_left.all (mc_okE PM (yX10_left, cX10_left, 4, some .int, tb_X10_left)) = true := by decide +kernel
set_option maxRecDepth 100000 in
theorem ok_X10_after : tb_X10_after.all (mc_okE PM (yX10_after, cX10_after, 4, some .int, tb_X10_after)) = true := by decide +kernel
set_option maxRecDepth 100000 in
theorem ok_X10_letQueuePass : tb_X10_letQueuePass.all (mc_okE PM (yX10_letQueuePass, cX10_letQueuePass, 6, none, tb_X10_letQueuePass)) = true := by decide +kernel
set_option maxRecDepth 100000 in
theorem ok_X10_isPair : tb_X10_isPair.all (mc_okE PM (yX10_isPair, cX10_isPair, 2, some .boolean, tb_X10_isPair)) = true := by decide +kernel
set_option maxRecDepth 100000 in
theorem ok_X10_gone : tb_X10_gone.all (mc_okE PM (yX10_gone, cX10_gone, 2, some .int, tb_X10_gone)) = true := by decide +kernel
set_option maxRecDepth 100000 in
theorem ok_X10_costOfGuests : tb_X10_costOfGuests.all (mc_okE PM (yX10_costOfGuests, cX10_costOfGuests, 6, some .int, tb_X10_costOfGuests)) = true := by decide +kernel
set_option maxRecDepth 100000 in
theorem ok_X10_lay : tb_X10_lay.all (mc_okE PM (yX10_lay, cX10_lay, 7, some .int, tb_X10_lay)) = true := by decide +kernel
set_option maxRecDepth 100000 in
theorem ok_X10_small : tb_X10_small.all (mc_okE PM (yX10_small, cX10_small, 4, some .int, tb_X10_small)) = true := by decide +kernel
set_option maxRecDepth 100000 in
theorem ok_X10_offers : tb_X10_offers.all (mc_okE PM (yX10_offers, cX10_offers, 4, some .long, tb_X10_offers)) = true := by decide +kernel
set_option maxRecDepth 100000 in
theorem ok_X10_stop : tb_X10_stop.all (mc_okE PM (yX10_stop, cX10_stop, 4, some .int, tb_X10_stop)) = true := by decide +kernel
set_option maxRecDepth 100000 in
theorem ok_X10_judge : tb_X10_judge.all (mc_okE PM (yX10_judge, cX10_judge, 5, some .int, tb_X10_judge)) = true := by decide +kernel
set_option maxRecDepth 100000 in
theorem ok_X10_refusalOfTold : tb_X10_refusalOfTold.all (mc_okE PM (yX10_refusalOfTold, cX10_refusalOfTold, 2, some .int, tb_X10_refusalOfTold)) = true := by decide +kernel
set_option maxRecDepth 100000 in
theorem ok_X10_toldSpoons : tb_X10_toldSpoons.all (mc_okE PM (yX10_toldSpoons, cX10_toldSpoons, 3, some .int, tb_X10_toldSpoons)) = true := by decide +kernel
set_option maxRecDepth 100000 in
theorem ok_X10_ways : tb_X10_ways.all (mc_okE PM (yX10_ways, cX10_ways, 5, some .int, tb_X10_ways)) = true := by decide +kernel
set_option maxRecDepth 100000 in
theorem ok_X10_isJustTold : tb_X10_isJustTold.all (mc_okE PM (yX10_isJustTold, cX10_isJustTold, 3, some .boolean, tb_X10_isJustTold)) = true := by decide +kernel
set_option maxRecDepth 100000 in
theorem ok_X10_drawn : tb_X10_drawn.all (mc_okE PM (yX10_drawn, cX10_drawn, 9, some .int, tb_X10_drawn)) = true := by decide +kernel
set_option maxRecDepth 100000 in
theorem ok_X10_take : tb_X10_take.all (mc_okE PM (yX10_take, cX10_take, 1, some .int, tb_X10_take)) = true := by decide +kernel
set_option maxRecDepth 100000 in
theorem ok_X10_goOn : tb_X10_goOn.all (mc_okE PM (yX10_goOn, cX10_goOn, 1, some .int, tb_X10_goOn)) = true := by decide +kernel
set_option maxRecDepth 100000 in
theorem ok_X10_end : tb_X10_end.all (mc_okE PM (yX10_end, cX10_end, 2, some .int, tb_X10_end)) = true := by decide +kernel
set_option maxRecDepth 100000 in
theorem ok_X10_led : tb_X10_led.all (mc_okE PM (yX10_led, cX10_led, 2, some .int, tb_X10_led)) = true := by decide +kernel
set_option maxRecDepth 100000 in
theorem ok_X10_image : tb_X10_image.all (mc_okE PM (yX10_image, cX10_image, 1, some .int, tb_X10_image)) = true := by decide +kernel
set_option maxRecDepth 100000 in
theorem ok_X10_back : tb_X10_back.all (mc_okE PM (yX10_back, cX10_back, 1, some .int, tb_X10_back)) = true := by decide +kernel
theorem pm_ok_5 : ∀ q ∈ pm_5, q.2.2.2.2.all (mc_okE PM q) = true := List.forall_mem_cons.mpr ⟨ok_X10_mean, List.forall_mem_cons.mpr ⟨ok_X10_left, List.forall_mem_cons.mpr ⟨ok_X10_after, List.forall_mem_cons.mpr ⟨ok_X10_letQueuePass, List.forall_mem_cons.mpr ⟨ok_X0_init, List.forall_mem_cons.mpr ⟨ok_X10_isPair, List.forall_mem_cons.mpr ⟨ok_X10_gone, List.forall_mem_cons.mpr ⟨ok_X10_costOfGuests, List.forall_mem_cons.mpr ⟨ok_X10_lay, List.forall_mem_cons.mpr ⟨ok_X10_small, List.forall_mem_cons.mpr ⟨ok_X10_offers, List.forall_mem_cons.mpr ⟨ok_X10_stop, List.forall_mem_cons.mpr ⟨ok_X10_judge, List.forall_mem_cons.mpr ⟨ok_X10_refusalOfTold, List.forall_mem_cons.mpr ⟨ok_X10_toldSpoons, List.forall_mem_cons.mpr ⟨ok_X10_ways, List.forall_mem_cons.mpr ⟨ok_X10_isJustTold, List.forall_mem_cons.mpr ⟨ok_X10_drawn, List.forall_mem_cons.mpr ⟨ok_X10_take, List.forall_mem_cons.mpr ⟨ok_X10_goOn, List.forall_mem_cons.mpr ⟨ok_X10_end, List.forall_mem_cons.mpr ⟨ok_X10_led, List.forall_mem_cons.mpr ⟨ok_X10_image, List.forall_mem_cons.mpr ⟨ok_X10_back, fun _ h => absurd h List.not_mem_nil⟩⟩⟩⟩⟩⟩⟩⟩⟩⟩⟩⟩⟩⟩⟩⟩⟩⟩⟩⟩⟩⟩⟩⟩
