set_option maxRecDepth 100000 in
theorem ok_X11_line : tb_X11_line.all (mc_okE PM (yX11_line, cX11_line, 2, none, tb_X11_line)) = true := by decide +kernel
set_option maxRecDepth 100000 in
theorem ok_X11_readText : tb_X11_readText.all (mc_okE PM (yX11_readText, cX11_readText, 3, some .int, tb_X11_readText)) = true := by decide +kernel
set_option maxRecDepth 100000 in
theorem ok_X11_twoOf : tb_X11_twoOf.all (mc_okE PM (yX11_twoOf, cX11_twoOf, 3, some .int, tb_X11_twoOf)) = true := by decide +kernel
set_option maxRecDepth 100000 in
theorem ok_X11_worked : tb_X11_worked.all (mc_okE PM (yX11_worked, cX11_worked, 7, some .int, tb_X11_worked)) = true := by decide +kernel
set_option maxRecDepth 100000 in
theorem ok_X11_gives : tb_X11_gives.all (mc_okE PM (yX11_gives, cX11_gives, 4, some .int, tb_X11_gives)) = true := by decide +kernel
set_option maxRecDepth 100000 in
theorem ok_X11_law : tb_X11_law.all (mc_okE PM (yX11_law, cX11_law, 2, some .int, tb_X11_law)) = true := by decide +kernel
set_option maxRecDepth 100000 in
theorem ok_X11_isBarred : tb_X11_isBarred.all (mc_okE PM (yX11_isBarred, cX11_isBarred, 4, some .boolean, tb_X11_isBarred)) = true := by decide +kernel
set_option maxRecDepth 100000 in
theorem ok_X11_roomOf : tb_X11_roomOf.all (mc_okE PM (yX11_roomOf, cX11_roomOf, 3, some .int, tb_X11_roomOf)) = true := by decide +kernel
set_option maxRecDepth 100000 in
theorem ok_X11_mostOf : tb_X11_mostOf.all (mc_okE PM (yX11_mostOf, cX11_mostOf, 6, some .int, tb_X11_mostOf)) = true := by decide +kernel
set_option maxRecDepth 100000 in
theorem ok_X11_worthOf : tb_X11_worthOf.all (mc_okE PM (yX11_worthOf, cX11_worthOf, 3, some .int, tb_X11_worthOf)) = true := by decide +kernel
set_option maxRecDepth 100000 in
theorem ok_X11_sortsWith : tb_X11_sortsWith.all (mc_okE PM (yX11_sortsWith, cX11_sortsWith, 4, some .int, tb_X11_sortsWith)) = true := by decide +kernel
set_option maxRecDepth 100000 in
theorem ok_X11_runsWith : tb_X11_runsWith.all (mc_okE PM (yX11_runsWith, cX11_runsWith, 4, some .int, tb_X11_runsWith)) = true := by decide +kernel
set_option maxRecDepth 100000 in
theorem ok_X11_beginRun : tb_X11_beginRun.all (mc_okE PM (yX11_beginRun, cX11_beginRun, 3, none, tb_X11_beginRun)) = true := by decide +kernel
set_option maxRecDepth 100000 in
theorem ok_X11_keyOf : tb_X11_keyOf.all (mc_okE PM (yX11_keyOf, cX11_keyOf, 5, some .int, tb_X11_keyOf)) = true := by decide +kernel
set_option maxRecDepth 100000 in
theorem ok_X11_spotOf : tb_X11_spotOf.all (mc_okE PM (yX11_spotOf, cX11_spotOf, 1, some .int, tb_X11_spotOf)) = true := by decide +kernel
set_option maxRecDepth 100000 in
theorem ok_X11_most : tb_X11_most.all (mc_okE PM (yX11_most, cX11_most, 11, some .int, tb_X11_most)) = true := by decide +kernel
set_option maxRecDepth 100000 in
theorem ok_X11_takesBest : tb_X11_takesBest.all (mc_okE PM (yX11_takesBest, cX11_takesBest, 10, some .int, tb_X11_takesBest)) = true := by decide +kernel
set_option maxRecDepth 100000 in
theorem ok_X11_takesLaw : tb_X11_takesLaw.all (mc_okE PM (yX11_takesLaw, cX11_takesLaw, 9, some .int, tb_X11_takesLaw)) = true := by decide +kernel
set_option maxRecDepth 100000 in
theorem ok_X11_goBy : tb_X11_goBy.all (mc_okE PM (yX11_goBy, cX11_goBy, 8, none, tb_X11_goBy)) = true := by decide +kernel
set_option maxRecDepth 100000 in
theorem ok_X11_best : tb_X11_best.all (mc_okE PM (yX11_best, cX11_best, 2, some .int, tb_X11_best)) = true := by decide +kernel
set_option maxRecDepth 100000 in
theorem ok_X11_sight : tb_X11_sight.all (mc_okE PM (yX11_sight, cX11_sight, 3, some .int, tb_X11_sight)) = true := by decide +kernel
set_option maxRecDepth 100000 in
theorem ok_X11_byLaw : tb_X11_byLaw.all (mc_okE PM (yX11_byLaw, cX11_byLaw, 2, some .int, tb_X11_byLaw)) = true := by decide +kernel
set_option maxRecDepth 100000 in
theorem ok_X11_power : tb_X11_power.all (mc_okE PM (yX11_power, cX11_power, 4, some .long, tb_X11_power)) = true := by decide +kernel
set_option maxRecDepth 100000 in
theorem ok_X11_meanIfThere : tb_X11_meanIfThere.all (mc_okE PM (yX11_meanIfThere, cX11_meanIfThere, 12, some .long, tb_X11_meanIfThere)) = true := by decide +kernel
theorem pm_ok_8 : ∀ q ∈ pm_8, q.2.2.2.2.all (mc_okE PM q) = true := List.forall_mem_cons.mpr ⟨ok_X11_line, List.forall_mem_cons.mpr ⟨ok_X11_readText, List.forall_mem_cons.mpr ⟨ok_X11_twoOf, List.forall_mem_cons.mpr ⟨ok_X11_worked, List.forall_mem_cons.mpr ⟨ok_X11_gives, List.forall_mem_cons.mpr ⟨ok_X11_law, List.forall_mem_cons.mpr ⟨ok_X11_isBarred, List.forall_mem_cons.mpr ⟨ok_X11_roomOf, List.forall_mem_cons.mpr ⟨ok_X11_mostOf, List.forall_mem_cons.mpr ⟨ok_X11_worthOf, List.forall_mem_cons.mpr ⟨ok_X11_sortsWith, List.forall_mem_cons.mpr ⟨ok_X11_runsWith, List.forall_mem_cons.mpr ⟨ok_X11_beginRun, List.forall_mem_cons.mpr ⟨ok_X11_keyOf, List.forall_mem_cons.mpr ⟨ok_X11_spotOf, List.forall_mem_cons.mpr ⟨ok_X11_most, List.forall_mem_cons.mpr ⟨ok_X11_takesBest, List.forall_mem_cons.mpr ⟨ok_X11_takesLaw, List.forall_mem_cons.mpr ⟨ok_X11_goBy, List.forall_mem_cons.mpr ⟨ok_X11_best, List.forall_mem_cons.mpr ⟨ok_X11_sight, List.forall_mem_cons.mpr ⟨ok_X11_byLaw, List.forall_mem_cons.mpr ⟨ok_X11_power, List.forall_mem_cons.mpr ⟨ok_X11_meanIfThere, fun _ h => absurd h List.not_mem_nil⟩⟩⟩⟩⟩⟩⟩⟩⟩⟩⟩⟩⟩⟩⟩⟩⟩⟩⟩⟩⟩⟩⟩⟩
