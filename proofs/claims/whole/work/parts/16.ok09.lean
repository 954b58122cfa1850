set_option maxRecDepth 100000 in
theorem ok_X11_meanFrom : tb_X11_meanFrom.all (mc_okE PM (yX11_meanFrom, cX11_meanFrom, 11, some .long, tb_X11_meanFrom)) = true := by decide +kernel
set_option maxRecDepth 100000 in
theorem ok_X11_asPart : tb_X11_asPart.all (mc_okE PM (yX11_asPart, cX11_asPart, 11, some .long, tb_X11_asPart)) = true := by decide +kernel
set_option maxRecDepth 100000 in
theorem ok_X11_mean : tb_X11_mean.all (mc_okE PM (yX11_mean, cX11_mean, 4, some .long, tb_X11_mean)) = true := by decide +kernel
set_option maxRecDepth 100000 in
theorem ok_X11_keepSpoons : tb_X11_keepSpoons.all (mc_okE PM (yX11_keepSpoons, cX11_keepSpoons, 2, none, tb_X11_keepSpoons)) = true := by decide +kernel
set_option maxRecDepth 100000 in
theorem ok_X11_laySpoons : tb_X11_laySpoons.all (mc_okE PM (yX11_laySpoons, cX11_laySpoons, 2, none, tb_X11_laySpoons)) = true := by decide +kernel
set_option maxRecDepth 100000 in
theorem ok_X11_goGuest : tb_X11_goGuest.all (mc_okE PM (yX11_goGuest, cX11_goGuest, 3, none, tb_X11_goGuest)) = true := by decide +kernel
set_option maxRecDepth 100000 in
theorem ok_X11_rowFault : tb_X11_rowFault.all (mc_okE PM (yX11_rowFault, cX11_rowFault, 2, some .int, tb_X11_rowFault)) = true := by decide +kernel
set_option maxRecDepth 100000 in
theorem ok_X11_byteAt : tb_X11_byteAt.all (mc_okE PM (yX11_byteAt, cX11_byteAt, 3, some .int, tb_X11_byteAt)) = true := by decide +kernel
set_option maxRecDepth 100000 in
theorem ok_X11_goQueue : tb_X11_goQueue.all (mc_okE PM (yX11_goQueue, cX11_goQueue, 3, none, tb_X11_goQueue)) = true := by decide +kernel
set_option maxRecDepth 100000 in
theorem ok_X11_left : tb_X11_left.all (mc_okE PM (yX11_left, cX11_left, 4, some .int, tb_X11_left)) = true := by decide +kernel
set_option maxRecDepth 100000 in
theorem ok_X11_after : tb_X11_after.all (mc_okE PM (yX11_after, cX11_after, 4, some .int, tb_X11_after)) = true := by decide +kernel
set_option maxRecDepth 100000 in
theorem ok_X11_areGuests : tb_X11_areGuests.all (mc_okE PM (yX11_areGuests, cX11_areGuests, 1, some .boolean, tb_X11_areGuests)) = true := by decide +kernel
set_option maxRecDepth 100000 in
theorem ok_X11_goneBy : tb_X11_goneBy.all (mc_okE PM (yX11_goneBy, cX11_goneBy, 3, some .int, tb_X11_goneBy)) = true := by decide +kernel
set_option maxRecDepth 100000 in
theorem ok_X11_gone : tb_X11_gone.all (mc_okE PM (yX11_gone, cX11_gone, 2, some .int, tb_X11_gone)) = true := by decide +kernel
set_option maxRecDepth 100000 in
theorem ok_X11_goOrders : tb_X11_goOrders.all (mc_okE PM (yX11_goOrders, cX11_goOrders, 6, none, tb_X11_goOrders)) = true := by decide +kernel
set_option maxRecDepth 100000 in
theorem ok_X11_lay : tb_X11_lay.all (mc_okE PM (yX11_lay, cX11_lay, 4, some .int, tb_X11_lay)) = true := by decide +kernel
set_option maxRecDepth 100000 in
theorem ok_X11_small : tb_X11_small.all (mc_okE PM (yX11_small, cX11_small, 5, some .int, tb_X11_small)) = true := by decide +kernel
set_option maxRecDepth 100000 in
theorem ok_X11_offerOf : tb_X11_offerOf.all (mc_okE PM (yX11_offerOf, cX11_offerOf, 5, some .long, tb_X11_offerOf)) = true := by decide +kernel
set_option maxRecDepth 100000 in
theorem ok_X11_offers : tb_X11_offers.all (mc_okE PM (yX11_offers, cX11_offers, 4, some .long, tb_X11_offers)) = true := by decide +kernel
set_option maxRecDepth 100000 in
theorem ok_X11_stop : tb_X11_stop.all (mc_okE PM (yX11_stop, cX11_stop, 4, some .int, tb_X11_stop)) = true := by decide +kernel
set_option maxRecDepth 100000 in
theorem ok_X11_toldAt : tb_X11_toldAt.all (mc_okE PM (yX11_toldAt, cX11_toldAt, 3, some .int, tb_X11_toldAt)) = true := by decide +kernel
set_option maxRecDepth 100000 in
theorem ok_X11_judge : tb_X11_judge.all (mc_okE PM (yX11_judge, cX11_judge, 7, some .int, tb_X11_judge)) = true := by decide +kernel
set_option maxRecDepth 100000 in
theorem ok_X11_ways : tb_X11_ways.all (mc_okE PM (yX11_ways, cX11_ways, 6, some .int, tb_X11_ways)) = true := by decide +kernel
set_option maxRecDepth 100000 in
theorem ok_X11_drawn : tb_X11_drawn.all (mc_okE PM (yX11_drawn, cX11_drawn, 9, some .int, tb_X11_drawn)) = true := by decide +kernel
theorem pm_ok_9 : ∀ q ∈ pm_9, q.2.2.2.2.all (mc_okE PM q) = true := List.forall_mem_cons.mpr ⟨ok_X11_meanFrom, List.forall_mem_cons.mpr ⟨ok_X11_asPart, List.forall_mem_cons.mpr ⟨ok_X11_mean, List.forall_mem_cons.mpr ⟨ok_X11_keepSpoons, List.forall_mem_cons.mpr ⟨ok_X11_laySpoons, List.forall_mem_cons.mpr ⟨ok_X11_goGuest, List.forall_mem_cons.mpr ⟨ok_X11_rowFault, List.forall_mem_cons.mpr ⟨ok_X11_byteAt, List.forall_mem_cons.mpr ⟨ok_X11_goQueue, List.forall_mem_cons.mpr ⟨ok_X11_left, List.forall_mem_cons.mpr ⟨ok_X11_after, List.forall_mem_cons.mpr ⟨ok_X11_areGuests, List.forall_mem_cons.mpr ⟨ok_X11_goneBy, List.forall_mem_cons.mpr ⟨ok_X11_gone, List.forall_mem_cons.mpr ⟨ok_X11_goOrders, List.forall_mem_cons.mpr ⟨ok_X11_lay, List.forall_mem_cons.mpr ⟨ok_X11_small, List.forall_mem_cons.mpr ⟨ok_X11_offerOf, List.forall_mem_cons.mpr ⟨ok_X11_offers, List.forall_mem_cons.mpr ⟨ok_X11_stop, List.forall_mem_cons.mpr ⟨ok_X11_toldAt, List.forall_mem_cons.mpr ⟨ok_X11_judge, List.forall_mem_cons.mpr ⟨ok_X11_ways, List.forall_mem_cons.mpr ⟨ok_X11_drawn, fun _ h => absurd h List.not_mem_nil⟩⟩⟩⟩⟩⟩⟩⟩⟩⟩⟩⟩⟩⟩⟩⟩⟩⟩⟩⟩⟩⟩⟩⟩
